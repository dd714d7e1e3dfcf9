/-! THE MODEL'S ANSWERS: answerOf, known, holds -/
/-- the N answers as the model keeps them: value, time, what it says; n kf vf: as the class keeps them -/
def ma_ok (N n : Nat) (kf : Nat → Nat) (vf : Nat → Int32) (av at' : Nat → Nat) (ax : Nat → Int32) : Prop := N ≤ 200 ∧ (∀ a, a < N → 1 ≤ av a ∧ av a ≤ 20 ∧ at' a ≤ 100000 ∧ ax a ≠ -1000000) ∧ (∀ i j, i < j → j < n → kf i < kf j) ∧ ∀ q x, an_has n kf vf q x ↔ ∃ a, a < N ∧ av a * 100001 + at' a = q ∧ ax a = x ∧ ∀ a', a < a' → a' < N → av a' * 100001 + at' a' ≠ q
def ma_at (N : Nat) (av at' : Nat → Nat) (ax : Nat → Int32) (I : Nat → Int32) (M : Nat → Nat → Int32) (W : Nat → Nat → Int64) : Prop := I 38 = nI N ∧ ∀ a, a < N → M 39 a = nI (av a) ∧ W 41 a = lN (at' a) ∧ W 40 a = (ax a).toInt64
/-- answer a may count for value v at time T, set before b -/
def ma_may (av at' : Nat → Nat) (v b T a : Nat) : Prop := av a = v ∧ at' a ≤ T ∧ b ≤ at' a
/-- the best of the first j -/
def ma_best (av at' : Nat → Nat) (v b T j : Nat) (r : Option Nat) : Prop := match r with
  | none => ∀ a, a < j → ¬ ma_may av at' v b T a
  | some a => a < j ∧ ma_may av at' v b T a ∧ ∀ a', a' < j → ma_may av at' v b T a' → at' a' < at' a ∨ (at' a' = at' a ∧ a' ≤ a)
theorem an_cu_ge {kf : Nat → Nat} {K : Nat} : ∀ {n : Nat}, (∀ i j, i < j → j < n → kf i < kf j) → ∀ {i : Nat}, an_cu kf K n ≤ i → i < n → K < kf i := by
  intro n
  induction n with
  | zero => intro _ i _ h; omega
  | succ n ih =>
    intro hs i h1 h2
    rw [an_cu] at h1
    by_cases q : kf n ≤ K
    · rw [if_pos q] at h1
      have e1 : an_cu kf K n = n := an_cu_all kf K n (fun j hj => by have := hs j n hj (by omega); omega)
      omega
    · rw [if_neg q] at h1
      by_cases z : i = n
      · rw [z]; omega
      · exact ih (fun a b x y => hs a b x (by omega)) h1 (by omega)
section MA
variable {N n : Nat} {kf : Nat → Nat} {vf : Nat → Int32} {av at' : Nat → Nat} {ax : Nat → Int32} {v b T : Nat}
theorem ma_lw_some {a : Nat} (h : ma_ok N n kf vf av at' ax) (hb : ma_best av at' v b T N (some a)) : an_lw n kf vf v b T = ax a := by
  obtain ⟨h1, h2, h3, h4⟩ := h
  obtain ⟨b1, ⟨b2, b3, b4⟩, b5⟩ := hb
  have ha := h2 a b1
  have hk : an_has n kf vf (v * 100001 + at' a) (ax a) := by
    refine (h4 _ _).mpr ⟨a, b1, by rw [b2], rfl, fun a' x y z => ?_⟩
    have ha' := h2 a' y
    have e1 : av a' = v := by omega
    rcases b5 a' y ⟨e1, by rw [e1] at z; omega, by rw [e1] at z; omega⟩ with q | q
    · rw [e1] at z; omega
    · omega
  obtain ⟨i, i1, i2, i3⟩ := hk
  have hki : kf i ≤ an_key v T := by rw [i2]; unfold an_key; split <;> omega
  have hlt : i < an_cu kf (an_key v T) n := Nat.lt_of_not_le (fun z => by have := an_cu_ge h3 z i1; omega)
  have hc : an_cu kf (an_key v T) n ≤ n := an_cu_le _ _ _
  have hlast : an_cu kf (an_key v T) n - 1 = i := by
    apply Classical.byContradiction
    intro q
    have hj : i < an_cu kf (an_key v T) n - 1 := by omega
    obtain ⟨a', a1, a2, a3, a4⟩ := (h4 (kf (an_cu kf (an_key v T) n - 1)) (vf (an_cu kf (an_key v T) n - 1))).mp ⟨_, by omega, rfl, rfl⟩
    have r1 := h3 i (an_cu kf (an_key v T) n - 1) hj (by omega)
    have r2 := an_cu_lt h3 (K := an_key v T) (i := an_cu kf (an_key v T) n - 1) (by omega)
    have ha' := h2 a' a1
    have r3 : an_key v T ≤ v * 100001 + 100000 ∧ an_key v T ≤ v * 100001 + T := by unfold an_key; split <;> omega
    have e1 : av a' = v := by omega
    rw [e1] at a2
    rcases b5 a' a1 ⟨e1, by omega, by omega⟩ with z | z <;> omega
  unfold an_lw
  rw [hlast, if_pos ⟨by omega, by omega, by omega⟩, i3]
theorem ma_lw_none (h : ma_ok N n kf vf av at' ax) (hb : ma_best av at' v b T N none) : an_lw n kf vf v b T = -1000000 := by
  obtain ⟨h1, h2, h3, h4⟩ := h
  unfold an_lw
  rw [if_neg]
  rintro ⟨q1, q2, q3⟩
  have hc : an_cu kf (an_key v T) n ≤ n := an_cu_le _ _ _
  obtain ⟨a', a1, a2, a3, a4⟩ := (h4 (kf (an_cu kf (an_key v T) n - 1)) (vf (an_cu kf (an_key v T) n - 1))).mp ⟨_, by omega, rfl, rfl⟩
  have r2 := an_cu_lt h3 (K := an_key v T) (i := an_cu kf (an_key v T) n - 1) (by omega)
  have r3 : an_key v T ≤ v * 100001 + 100000 ∧ an_key v T ≤ v * 100001 + T := by unfold an_key; split <;> omega
  have ha' := h2 a' a1
  have e1 : av a' = v := by omega
  rw [e1] at a2
  exact hb a' a1 ⟨e1, by omega, by omega⟩
theorem bhI_l {b : Nat} (h : b < 2 ^ 30) : (bhI b).toInt64.toInt = (b : Int) - 1 := by
  rw [Int32.toInt_toInt64]
  cases b with
  | zero => rfl
  | succ b =>
    rw [bhI_s, nI_toInt (by omega)]
    omega
theorem bhI_lt {b t : Nat} (h : b < 2 ^ 30) (ht : t < 2 ^ 30) : (bhI b).toInt64 < lN t ↔ b ≤ t := by
  rw [Int64.lt_iff_toInt_lt, bhI_l h, lN_toInt (by omega)]
  omega
end MA
section MB
variable {l : Launch} {X : pm_X} {G G0 : pm_G} {a : Nat} {A : Nat → Nat} {I : Nat → Int32} {J : Nat → Int64} {M : Nat → Nat → Int32} {W : Nat → Nat → Int64} {N n : Nat} {kf : Nat → Nat} {vf : Nat → Int32} {av at' : Nat → Nat} {ax : Nat → Int32} {v b T : Nat}
def oI (r : Option Nat) : Int32 := r.elim (-1) nI
set_option maxHeartbeats 2000000 in
theorem c_Mo_answerOf (hG : mo_at G0 a A I J M W G) (ha : ma_at N av at' ax I M W) (hN : N ≤ 200) (hat : ∀ i, i < N → av i ≤ 20 ∧ at' i ≤ 100000) (hT : J 52 = lN T) (hT2 : T < 2 ^ 30) (hv : v ≤ 20) (hs : W 58 v = (bhI b).toInt64) (hb : b < 2 ^ 30) : cn_M l X m_Mo_answerOf 0 0 0 [.ref a, .int (nI v)] G (fun r G' => (∃ o, ma_best av at' v b T N o ∧ r = some (.int (oI o))) ∧ G = G') := by
  obtain ⟨h38, hai⟩ := ha
  refine cn_in rfl (Nat.le_of_ble_eq_true rfl) ?_
  have loop : ∀ (m j : Nat) (o : Option Nat), j + m = N → ma_best av at' v b T j o → ev_W l X m_Mo_answerOf 0 0 0 (fun r G' => (∃ o, ma_best av at' v b T N o ∧ r = some (.int (oI o))) ∧ G = G') 0 0 4 [(0, .ref a), (1, .int (nI v)), (2, .int (oI o)), (3, .int (nI j))] [] G := by
    intro m
    induction m with
    | zero =>
      intro j o hj ho
      refine ev_iload_n d_Mo_answerOf_4 rfl rfl ?_
      refine ev_aload_n d_Mo_answerOf_5 rfl rfl ?_
      refine em_getI (i := 38) hG d_Mo_answerOf_6 fo_Mo_229 rfl (by (repeat (first | apply va_up_t (h := by decide) | apply mo_w_t (h5 := by decide) (h7 := by decide) (h8 := by decide) | exact va_up_s | exact mo_w_5 | exact mo_w_7 | exact mo_w_8 | assumption)); all_goals rfl) ?_
      refine ev_icmp_ge 92 d_Mo_answerOf_9 (by decide) (fun hc => ?_) (fun hc => ?_)
      · refine ev_iload_n d_Mo_answerOf_92 rfl rfl ?_
        rw [show j = N by omega] at ho
        exact ev_iret d_Mo_answerOf_93 rfl (⟨⟨o, ho, rfl⟩, rfl⟩)
      · exact absurd (nI_le (by omega) (by omega)) hc
    | succ m ih =>
      intro j o hj ho
      obtain ⟨a1, a2, a3⟩ := hai j (by omega)
      obtain ⟨t1, t2⟩ := hat j (by omega)
      have next : ∀ (o' : Option Nat), ma_best av at' v b T (j + 1) o' → ev_W l X m_Mo_answerOf 0 0 0 (fun r G' => (∃ o, ma_best av at' v b T N o ∧ r = some (.int (oI o))) ∧ G = G') 0 0 86 [(0, .ref a), (1, .int (nI v)), (2, .int (oI o')), (3, .int (nI j))] [] G := by
        intro o' ho'
        refine ev_iinc d_Mo_answerOf_86 rfl (by first | exact nI_1 _ | rfl) (by decide) ?_
        refine ev_goto 4 d_Mo_answerOf_89 (by decide) ?_
        exact ih (j + 1) o' (by omega) ho'
      have no : ¬ ma_may av at' v b T j → ev_W l X m_Mo_answerOf 0 0 0 (fun r G' => (∃ o, ma_best av at' v b T N o ∧ r = some (.int (oI o))) ∧ G = G') 0 0 56 [(0, .ref a), (1, .int (nI v)), (2, .int (oI o)), (3, .int (nI j))] [] G := by
        intro q
        refine ev_iconst (v := 0) d_Mo_answerOf_56 (by decide) ?_
        refine ev_istore d_Mo_answerOf_57 (by decide) ?_
        refine ev_iload d_Mo_answerOf_59 rfl ?_
        refine ev_if_eq 86 d_Mo_answerOf_61 (by decide) (fun _ => ?_) (fun z => absurd rfl z)
        refine ev_keep [0, 1, 2, 3] ?_
        refine next o ?_
        cases o with
        | none =>
          intro i hi z
          by_cases y : i = j
          · rw [y] at z; exact q z
          · exact ho i (by omega) z
        | some k =>
          obtain ⟨k1, k2, k3⟩ := ho
          refine ⟨by omega, k2, fun i hi z => ?_⟩
          by_cases y : i = j
          · rw [y] at z; exact absurd z q
          · exact k3 i (by omega) z
      refine ev_iload_n d_Mo_answerOf_4 rfl rfl ?_
      refine ev_aload_n d_Mo_answerOf_5 rfl rfl ?_
      refine em_getI (i := 38) hG d_Mo_answerOf_6 fo_Mo_229 rfl (by (repeat (first | apply va_up_t (h := by decide) | apply mo_w_t (h5 := by decide) (h7 := by decide) (h8 := by decide) | exact va_up_s | exact mo_w_5 | exact mo_w_7 | exact mo_w_8 | assumption)); all_goals rfl) ?_
      refine ev_icmp_ge 92 d_Mo_answerOf_9 (by decide) (fun hc => ?_) (fun hc => ?_)
      · exact absurd hc (nI_ge (by omega) (by omega))
      · refine ev_aload_n d_Mo_answerOf_12 rfl rfl ?_
        refine em_getA (i := 39) hG d_Mo_answerOf_13 fo_Mo_84 rfl ?_
        refine ev_iload_n d_Mo_answerOf_16 rfl rfl ?_
        refine em_iald (i := 39) (N := 200) hG d_Mo_answerOf_17 rfl rfl (by decide) (by omega) (by (repeat (first | apply va_up_mt (h := by decide) | apply va_up_ms | apply pk_ut (h := by omega) | apply pk_uLt (h := by omega) | exact pk_us | exact pk_uLs | assumption)); all_goals rfl) ?_
        refine ev_iload_n d_Mo_answerOf_18 rfl rfl ?_
        refine ev_icmp_ne 56 d_Mo_answerOf_19 (by decide) (fun h1 => ?_) (fun h1 => ?_)
        · exact no (fun z => h1 (by rw [z.1]))
        · have h1 : av j = v := (nI_eq (by omega) (by omega)).mp h1
          refine ev_aload_n d_Mo_answerOf_22 rfl rfl ?_
          refine em_getA (i := 41) hG d_Mo_answerOf_23 fo_Mo_90 rfl ?_
          refine ev_iload_n d_Mo_answerOf_26 rfl rfl ?_
          refine em_lald (i := 41) (N := 200) hG d_Mo_answerOf_27 rfl rfl (by decide) (by omega) (by (repeat (first | apply va_up_mt (h := by decide) | apply va_up_ms | apply pk_ut (h := by omega) | apply pk_uLt (h := by omega) | exact pk_us | exact pk_uLs | assumption)); all_goals rfl) ?_
          refine ev_aload_n d_Mo_answerOf_28 rfl rfl ?_
          refine em_getJ (i := 52) hG d_Mo_answerOf_29 fo_Mo_243 rfl (by (repeat (first | apply va_up_t (h := by decide) | apply mo_w_t (h5 := by decide) (h7 := by decide) (h8 := by decide) | exact va_up_s | exact mo_w_5 | exact mo_w_7 | exact mo_w_8 | assumption)); all_goals rfl) ?_
          refine ev_lcmp d_Mo_answerOf_32 ?_
          refine ev_if_gt 56 d_Mo_answerOf_33 (by decide) (fun h2 => ?_) (fun h2 => ?_)
          · have h2 := (lg_cmp_gt _ _).mp h2
            exact no (fun z => by have := (pk_lLT (by omega) (by omega)).mp h2; have := z.2.1; omega)
          · have h2 : at' j ≤ T := Nat.not_lt.mp (fun z => h2 ((lg_cmp_gt _ _).mpr ((pk_lLT (by omega) (by omega)).mpr z)))
            refine ev_aload_n d_Mo_answerOf_36 rfl rfl ?_
            refine em_getA (i := 41) hG d_Mo_answerOf_37 fo_Mo_90 rfl ?_
            refine ev_iload_n d_Mo_answerOf_40 rfl rfl ?_
            refine em_lald (i := 41) (N := 200) hG d_Mo_answerOf_41 rfl rfl (by decide) (by omega) (by (repeat (first | apply va_up_mt (h := by decide) | apply va_up_ms | apply pk_ut (h := by omega) | apply pk_uLt (h := by omega) | exact pk_us | exact pk_uLs | assumption)); all_goals rfl) ?_
            refine ev_aload_n d_Mo_answerOf_42 rfl rfl ?_
            refine em_getA (i := 58) hG d_Mo_answerOf_43 fo_Mo_121 rfl ?_
            refine ev_iload_n d_Mo_answerOf_46 rfl rfl ?_
            refine em_lald (i := 58) (N := 21) hG d_Mo_answerOf_47 rfl rfl (by decide) (by omega) (by (repeat (first | apply va_up_mt (h := by decide) | apply va_up_ms | apply pk_ut (h := by omega) | apply pk_uLt (h := by omega) | exact pk_us | exact pk_uLs | assumption)); all_goals rfl) ?_
            refine ev_lcmp d_Mo_answerOf_48 ?_
            by_cases h3 : (bhI b).toInt64 < lN (at' j)
            · refine ev_if_le 56 d_Mo_answerOf_49 (by decide) (fun z => absurd ((lg_cmp_gt _ _).mpr h3) (Int32.not_lt.mpr z)) (fun _ => ?_)
              have h3 : b ≤ at' j := (bhI_lt hb (by omega)).mp h3
              have hm : ma_may av at' v b T j := ⟨h1, h2, h3⟩
              refine ev_iconst (v := 1) d_Mo_answerOf_52 (by decide) ?_
              refine ev_goto 57 d_Mo_answerOf_53 (by decide) ?_
              refine ev_istore d_Mo_answerOf_57 (by decide) ?_
              refine ev_iload d_Mo_answerOf_59 rfl ?_
              refine ev_if_eq 86 d_Mo_answerOf_61 (by decide) (fun z => absurd z (by decide)) (fun _ => ?_)
              cases o with
              | none =>
                refine ev_iload_n d_Mo_answerOf_64 rfl rfl ?_
                refine ev_if_lt 84 d_Mo_answerOf_65 (by decide) (fun _ => ?_) (fun z => absurd (by decide) z)
                refine ev_iload_n d_Mo_answerOf_84 rfl rfl ?_
                refine ev_istore_n d_Mo_answerOf_85 rfl (by decide) ?_
                refine ev_keep [0, 1, 2, 3] ?_
                refine next (some j) ⟨by omega, hm, fun i hi z => ?_⟩
                by_cases y : i = j
                · rw [y]; exact Or.inr ⟨rfl, Nat.le_refl _⟩
                · exact absurd z (ho i (by omega))
              | some k =>
                obtain ⟨k1, k2, k3⟩ := id ho
                obtain ⟨c1, c2, c3⟩ := hai k (by omega)
                obtain ⟨u1, u2⟩ := hat k (by omega)
                show ev_W l X m_Mo_answerOf 0 0 0 (fun r G' => (∃ o, ma_best av at' v b T N o ∧ r = some (.int (oI o))) ∧ G = G') 0 0 64 [(0, .ref a), (1, .int (nI v)), (2, .int (nI k)), (3, .int (nI j)), (4, .int 1)] [] G
                refine ev_iload_n d_Mo_answerOf_64 rfl rfl ?_
                refine ev_if_lt 84 d_Mo_answerOf_65 (by decide) (fun z => absurd z (nI_pos (by omega))) (fun _ => ?_)
                refine ev_aload_n d_Mo_answerOf_68 rfl rfl ?_
                refine em_getA (i := 41) hG d_Mo_answerOf_69 fo_Mo_90 rfl ?_
                refine ev_iload_n d_Mo_answerOf_72 rfl rfl ?_
                refine em_lald (i := 41) (N := 200) hG d_Mo_answerOf_73 rfl rfl (by decide) (by omega) (by (repeat (first | apply va_up_mt (h := by decide) | apply va_up_ms | apply pk_ut (h := by omega) | apply pk_uLt (h := by omega) | exact pk_us | exact pk_uLs | assumption)); all_goals rfl) ?_
                refine ev_aload_n d_Mo_answerOf_74 rfl rfl ?_
                refine em_getA (i := 41) hG d_Mo_answerOf_75 fo_Mo_90 rfl ?_
                refine ev_iload_n d_Mo_answerOf_78 rfl rfl ?_
                refine em_lald (i := 41) (N := 200) hG d_Mo_answerOf_79 rfl rfl (by decide) (by omega) (by (repeat (first | apply va_up_mt (h := by decide) | apply va_up_ms | apply pk_ut (h := by omega) | apply pk_uLt (h := by omega) | exact pk_us | exact pk_uLs | assumption)); all_goals rfl) ?_
                refine ev_lcmp d_Mo_answerOf_80 ?_
                refine ev_if_lt 86 d_Mo_answerOf_81 (by decide) (fun h4 => ?_) (fun h4 => ?_)
                · have h4 := (pk_lLT (by omega) (by omega)).mp ((lg_cmp_lt _ _).mp h4)
                  refine ev_keep [0, 1, 2, 3] ?_
                  refine next (some k) ⟨by omega, k2, fun i hi z => ?_⟩
                  by_cases y : i = j
                  · rw [y]; exact Or.inl h4
                  · exact k3 i (by omega) z
                · have h4 : at' k ≤ at' j := Nat.not_lt.mp (fun z => h4 ((lg_cmp_lt _ _).mpr ((pk_lLT (by omega) (by omega)).mpr z)))
                  refine ev_iload_n d_Mo_answerOf_84 rfl rfl ?_
                  refine ev_istore_n d_Mo_answerOf_85 rfl (by decide) ?_
                  refine ev_keep [0, 1, 2, 3] ?_
                  refine next (some j) ⟨by omega, hm, fun i hi z => ?_⟩
                  by_cases y : i = j
                  · rw [y]; exact Or.inr ⟨rfl, Nat.le_refl _⟩
                  · rcases k3 i (by omega) z with w | w
                    · exact Or.inl (by omega)
                    · by_cases y2 : at' i = at' j
                      · exact Or.inr ⟨y2, by omega⟩
                      · exact Or.inl (by omega)
            · refine ev_if_le 56 d_Mo_answerOf_49 (by decide) (fun _ => ?_) (fun z => absurd ((lg_cmp_gt _ _).mp (Int32.not_le.mp z)) h3)
              exact no (fun z => h3 ((bhI_lt hb (by omega)).mpr z.2.2))
  refine ev_iconst (v := -1) d_Mo_answerOf_0 (by decide) ?_
  refine ev_istore_n d_Mo_answerOf_1 rfl (by decide) ?_
  refine ev_iconst (v := 0) d_Mo_answerOf_2 (by decide) ?_
  refine ev_istore_n d_Mo_answerOf_3 rfl (by decide) ?_
  exact loop N 0 none (by omega) (fun i hi => by omega)
/-- what the value is -/
def mval (n : Nat) (kf : Nat → Nat) (vf : Nat → Int32) (v b T : Nat) (sv : Int32) : Int32 := if an_lw n kf vf v b T = -1000000 then (if b = 0 then -1000000 else sv) else an_lw n kf vf v b T
theorem ma_o (hok : ma_ok N n kf vf av at' ax) {o : Option Nat} (h : ma_best av at' v b T N o) : (o = none ∧ an_lw n kf vf v b T = -1000000 ∧ oI o = -1) ∨ ∃ i, o = some i ∧ i < N ∧ an_lw n kf vf v b T = ax i ∧ ax i ≠ -1000000 ∧ oI o = nI i := by
  cases o with
  | none => exact Or.inl ⟨rfl, ma_lw_none hok h, rfl⟩
  | some i => exact Or.inr ⟨i, rfl, h.1, ma_lw_some hok h, (hok.2.1 i h.1).2.2.2, rfl⟩
theorem c_Mo_known (hG : mo_at G0 a A I J M W G) (ha : ma_at N av at' ax I M W) (hok : ma_ok N n kf vf av at' ax) (hT : J 52 = lN T) (hT2 : T < 2 ^ 30) (hv : v ≤ 20) (hs : W 58 v = (bhI b).toInt64) (hb : b < 2 ^ 30) {sv : Int32} (hsv : b ≠ 0 → sv ≠ -1000000) : cn_M l X m_Mo_known 1 0 0 [.ref a, .int (nI v)] G (fun r G' => r = some (.int (cI (mval n kf vf v b T sv ≠ -1000000))) ∧ G = G') := by
  refine cn_in rfl (Nat.le_of_ble_eq_true rfl) ?_
  refine ev_aload_n d_Mo_known_0 rfl rfl ?_
  refine em_getA (i := 58) hG d_Mo_known_1 fo_Mo_121 rfl ?_
  refine ev_iload_n d_Mo_known_4 rfl rfl ?_
  refine em_lald (i := 58) (N := 21) hG d_Mo_known_5 rfl rfl (by decide) (by omega) (by (repeat (first | apply va_up_mt (h := by decide) | apply va_up_ms | apply pk_ut (h := by omega) | apply pk_uLt (h := by omega) | exact pk_us | exact pk_uLs | assumption)); all_goals rfl) ?_
  refine ev_lconst (v := 0) d_Mo_known_6 (by decide) ?_
  refine ev_lcmp d_Mo_known_7 ?_
  by_cases hb0 : b = 0
  · refine ev_if_ge 19 d_Mo_known_8 (by decide) (fun z => absurd z (Int32.not_le.mpr ((lg_cmp_lt _ _).mpr (by rw [hb0]; decide)))) (fun _ => ?_)
    refine ev_aload_n d_Mo_known_11 rfl rfl ?_
    refine ev_iload_n d_Mo_known_12 rfl rfl ?_
    refine ev_callV1 d_Mo_known_13 ck_Mo_answerOf ml_Mo_246 im_Mo_answerOf se_Mo_answerOf rfl hG.1 (c_Mo_answerOf hG ha hok.1 (fun i hi => ⟨(hok.2.1 i hi).2.1, (hok.2.1 i hi).2.2.1⟩) hT hT2 hv hs hb) (by omega) (Nat.le_of_ble_eq_true rfl) (by omega) (by omega) ?_
    rintro _ _ ⟨⟨o, ho, rfl⟩, rfl⟩
    rcases ma_o hok ho with ⟨o1, o2, o3⟩ | ⟨i, o1, o2, o3, o4, o5⟩
    · rw [o3]
      refine ev_if_lt 23 d_Mo_known_16 (by decide) (fun _ => ?_) (fun z => absurd (by decide) z)
      refine ev_iconst (v := 0) d_Mo_known_23 (by decide) ?_
      exact ev_zret d_Mo_known_24 rfl rfl (⟨by rw [cI_f (fun z => z (by unfold mval; rw [if_pos o2, if_pos hb0]))], rfl⟩)
    · rw [o5]
      have hn2 := hok.1
      refine ev_if_lt 23 d_Mo_known_16 (by decide) (fun z => absurd z (nI_pos (by omega))) (fun _ => ?_)
      refine ev_iconst (v := 1) d_Mo_known_19 (by decide) ?_
      refine ev_goto 24 d_Mo_known_20 (by decide) ?_
      exact ev_zret d_Mo_known_24 rfl rfl (⟨by rw [cI_t (by unfold mval; rw [if_neg (by rw [o3]; exact o4), o3]; exact o4)], rfl⟩)
  · refine ev_if_ge 19 d_Mo_known_8 (by decide) (fun _ => ?_) (fun z => absurd (Int32.not_lt.mp (fun y => absurd ((lg_cmp_lt _ _).mp y) (by rw [Int64.lt_iff_toInt_lt, bhI_l hb]; show ¬ ((b : Int) - 1 < 0); omega))) z)
    refine ev_iconst (v := 1) d_Mo_known_19 (by decide) ?_
    refine ev_goto 24 d_Mo_known_20 (by decide) ?_
    refine ev_zret d_Mo_known_24 rfl rfl ⟨?_, rfl⟩
    rw [cI_t]
    unfold mval
    by_cases q : an_lw n kf vf v b T = -1000000
    · rw [if_pos q, if_neg hb0]; exact hsv hb0
    · rw [if_neg q]; exact q
theorem i64_eq {x y : Int32} : x.toInt64 = y.toInt64 ↔ x = y := by
  rw [← Int64.toInt_inj, ← Int32.toInt_inj, Int32.toInt_toInt64, Int32.toInt_toInt64]
theorem i64_lt {x y : Int32} : x.toInt64 < y.toInt64 ↔ x < y := by rw [Int64.lt_iff_toInt_lt, Int32.lt_iff_toInt_lt, Int32.toInt_toInt64, Int32.toInt_toInt64]
set_option maxHeartbeats 2000000 in
theorem c_Mo_holds (hG : mo_at G0 a A I J M W G) (ha : ma_at N av at' ax I M W) (hok : ma_ok N n kf vf av at' ax) (hT : J 52 = lN T) (hT2 : T < 2 ^ 30) (hv : v ≤ 20) (hs : W 58 v = (bhI b).toInt64) (hb : b < 2 ^ 30) {sv op nu : Int32} {i : Nat} (hsv : b ≠ 0 → sv ≠ -1000000) (hi : i < 1200) (h26 : M 26 i = nI v) (h57 : b ≠ 0 → W 57 v = sv.toInt64) (h29 : M 29 i = op) (h27 : W 27 i = nu.toInt64) : cn_M l X m_Mo_holds 2 0 0 [.ref a, .int (nI i)] G (fun r G' => r = some (.int (cI (mval n kf vf v b T sv ≠ -1000000 ∧ hs_B op nu (mval n kf vf v b T sv) = true))) ∧ G = G') := by
  refine cn_in rfl (Nat.le_of_ble_eq_true rfl) ?_
  refine ev_aload_n d_Mo_holds_0 rfl rfl ?_
  refine em_getA (i := 26) hG d_Mo_holds_1 fo_Mo_53 rfl ?_
  refine ev_iload_n d_Mo_holds_4 rfl rfl ?_
  refine em_iald (i := 26) (N := 1200) hG d_Mo_holds_5 rfl rfl (by decide) (by omega) (by (repeat (first | apply va_up_mt (h := by decide) | apply va_up_ms | apply pk_ut (h := by omega) | apply pk_uLt (h := by omega) | exact pk_us | exact pk_uLs | assumption)); all_goals rfl) ?_
  refine ev_istore_n d_Mo_holds_6 rfl (by decide) ?_
  refine ev_aload_n d_Mo_holds_7 rfl rfl ?_
  refine ev_iload_n d_Mo_holds_8 rfl rfl ?_
  refine ev_callV1 d_Mo_holds_9 ck_Mo_known ml_Mo_250 im_Mo_known se_Mo_known rfl hG.1 (c_Mo_known hG ha hok hT hT2 hv hs hb hsv) (by omega) (Nat.le_of_ble_eq_true rfl) (by omega) (by omega) ?_
  rintro _ _ ⟨rfl, rfl⟩
  refine ev_if_ne 17 d_Mo_holds_12 (by decide) (fun hk => ?_) (fun hk => ?_)
  · have hk := cI_1 hk
    have hn2 := hok.1
    have fin : ∀ (x : Int64) (o : Int32), x = (mval n kf vf v b T sv).toInt64 → ev_W l X m_Mo_holds 2 0 0 (fun r G' => r = some (.int (cI (mval n kf vf v b T sv ≠ -1000000 ∧ hs_B op nu (mval n kf vf v b T sv) = true))) ∧ G = G') 0 0 42 [(0, .ref a), (1, .int (nI i)), (2, .int (nI v)), (3, .int o)] [.long x] G := by
      intro x o hx
      subst hx
      have ret : ∀ (y : Int32), y = cI (mval n kf vf v b T sv ≠ -1000000 ∧ hs_B op nu (mval n kf vf v b T sv) = true) → ev_W l X m_Mo_holds 2 0 0 (fun r G' => r = some (.int (cI (mval n kf vf v b T sv ≠ -1000000 ∧ hs_B op nu (mval n kf vf v b T sv) = true))) ∧ G = G') 0 0 146 [(0, .ref a), (1, .int (nI i)), (2, .int (nI v)), (3, .int o), (4, .long (mval n kf vf v b T sv).toInt64), (6, .long nu.toInt64)] [.int y] G := by
        intro y hy
        subst hy
        exact ev_zret d_Mo_holds_146 rfl cI_n ⟨rfl, rfl⟩
      have yes : hs_B op nu (mval n kf vf v b T sv) = true → (1 : Int32) = cI (mval n kf vf v b T sv ≠ -1000000 ∧ hs_B op nu (mval n kf vf v b T sv) = true) := fun q => by rw [cI_t ⟨hk, q⟩]
      have no : hs_B op nu (mval n kf vf v b T sv) = false → (0 : Int32) = cI (mval n kf vf v b T sv ≠ -1000000 ∧ hs_B op nu (mval n kf vf v b T sv) = true) := fun q => by rw [cI_f (fun z => by rw [q] at z; cases z.2)]
      refine ev_lstore d_Mo_holds_42 (by decide) ?_
      refine ev_aload_n d_Mo_holds_44 rfl rfl ?_
      refine em_getA (i := 27) hG d_Mo_holds_45 fo_Mo_56 rfl ?_
      refine ev_iload_n d_Mo_holds_48 rfl rfl ?_
      refine em_lald (i := 27) (N := 1200) hG d_Mo_holds_49 rfl rfl (by decide) (by omega) (by (repeat (first | apply va_up_mt (h := by decide) | apply va_up_ms | apply pk_ut (h := by omega) | apply pk_uLt (h := by omega) | exact pk_us | exact pk_uLs | assumption)); all_goals rfl) ?_
      refine ev_lstore d_Mo_holds_50 (by decide) ?_
      refine ev_aload_n d_Mo_holds_52 rfl rfl ?_
      refine em_getA (i := 29) hG d_Mo_holds_53 fo_Mo_62 rfl ?_
      refine ev_iload_n d_Mo_holds_56 rfl rfl ?_
      refine em_iald (i := 29) (N := 1200) hG d_Mo_holds_57 rfl rfl (by decide) (by omega) (by (repeat (first | apply va_up_mt (h := by decide) | apply va_up_ms | apply pk_ut (h := by omega) | apply pk_uLt (h := by omega) | exact pk_us | exact pk_uLs | assumption)); all_goals rfl) ?_
      refine ev_bipush (v := 61) d_Mo_holds_58 (by decide) ?_
      refine ev_icmp_ne 79 d_Mo_holds_60 (by decide) (fun c1 => ?_) (fun c1 => ?_)
      · refine ev_aload_n d_Mo_holds_79 rfl rfl ?_
        refine em_getA (i := 29) hG d_Mo_holds_80 fo_Mo_62 rfl ?_
        refine ev_iload_n d_Mo_holds_83 rfl rfl ?_
        refine em_iald (i := 29) (N := 1200) hG d_Mo_holds_84 rfl rfl (by decide) (by omega) (by (repeat (first | apply va_up_mt (h := by decide) | apply va_up_ms | apply pk_ut (h := by omega) | apply pk_uLt (h := by omega) | exact pk_us | exact pk_uLs | assumption)); all_goals rfl) ?_
        refine ev_bipush (v := 60) d_Mo_holds_85 (by decide) ?_
        refine ev_icmp_ne 106 d_Mo_holds_87 (by decide) (fun c2 => ?_) (fun c2 => ?_)
        · refine ev_aload_n d_Mo_holds_106 rfl rfl ?_
          refine em_getA (i := 29) hG d_Mo_holds_107 fo_Mo_62 rfl ?_
          refine ev_iload_n d_Mo_holds_110 rfl rfl ?_
          refine em_iald (i := 29) (N := 1200) hG d_Mo_holds_111 rfl rfl (by decide) (by omega) (by (repeat (first | apply va_up_mt (h := by decide) | apply va_up_ms | apply pk_ut (h := by omega) | apply pk_uLt (h := by omega) | exact pk_us | exact pk_uLs | assumption)); all_goals rfl) ?_
          refine ev_bipush (v := 62) d_Mo_holds_112 (by decide) ?_
          refine ev_icmp_ne 133 d_Mo_holds_114 (by decide) (fun c3 => ?_) (fun c3 => ?_)
          · have eh : hs_B op nu (mval n kf vf v b T sv) = !decide (mval n kf vf v b T sv = nu) := by unfold hs_B; rw [if_neg c2, if_neg c1, if_neg c3]
            refine ev_lload d_Mo_holds_133 rfl ?_
            refine ev_lload d_Mo_holds_135 rfl ?_
            refine ev_lcmp d_Mo_holds_137 ?_
            refine ev_if_eq 145 d_Mo_holds_138 (by decide) (fun c4 => ?_) (fun c4 => ?_)
            · have c4 := i64_eq.mp ((lg_cmp_eq _ _).mp c4)
              refine ev_iconst (v := 0) d_Mo_holds_145 (by decide) ?_
              exact ret _ (no (by rw [eh, decide_eq_true c4]; rfl))
            · have c4 : ¬ mval n kf vf v b T sv = nu := fun z => c4 ((lg_cmp_eq _ _).mpr (i64_eq.mpr z))
              refine ev_iconst (v := 1) d_Mo_holds_141 (by decide) ?_
              refine ev_goto 146 d_Mo_holds_142 (by decide) ?_
              exact ret _ (yes (by rw [eh, decide_eq_false c4]; rfl))
          · have eh : hs_B op nu (mval n kf vf v b T sv) = decide (nu < mval n kf vf v b T sv) := by unfold hs_B; rw [if_neg c2, if_neg c1, if_pos c3]
            refine ev_lload d_Mo_holds_117 rfl ?_
            refine ev_lload d_Mo_holds_119 rfl ?_
            refine ev_lcmp d_Mo_holds_121 ?_
            by_cases c4 : nu < mval n kf vf v b T sv
            · refine ev_if_le 129 d_Mo_holds_122 (by decide) (fun z => absurd ((lg_cmp_gt _ _).mpr (i64_lt.mpr c4)) (Int32.not_lt.mpr z)) (fun _ => ?_)
              refine ev_iconst (v := 1) d_Mo_holds_125 (by decide) ?_
              refine ev_goto 146 d_Mo_holds_126 (by decide) ?_
              exact ret _ (yes (by rw [eh, decide_eq_true c4]))
            · refine ev_if_le 129 d_Mo_holds_122 (by decide) (fun _ => ?_) (fun z => absurd (i64_lt.mp ((lg_cmp_gt _ _).mp (Int32.not_le.mp z))) c4)
              refine ev_iconst (v := 0) d_Mo_holds_129 (by decide) ?_
              refine ev_goto 146 d_Mo_holds_130 (by decide) ?_
              exact ret _ (no (by rw [eh, decide_eq_false c4]))
        · have eh : hs_B op nu (mval n kf vf v b T sv) = decide (mval n kf vf v b T sv < nu) := by unfold hs_B; rw [if_pos c2]
          refine ev_lload d_Mo_holds_90 rfl ?_
          refine ev_lload d_Mo_holds_92 rfl ?_
          refine ev_lcmp d_Mo_holds_94 ?_
          by_cases c4 : mval n kf vf v b T sv < nu
          · refine ev_if_ge 102 d_Mo_holds_95 (by decide) (fun z => absurd ((lg_cmp_lt _ _).mpr (i64_lt.mpr c4)) (Int32.not_lt.mpr z)) (fun _ => ?_)
            refine ev_iconst (v := 1) d_Mo_holds_98 (by decide) ?_
            refine ev_goto 146 d_Mo_holds_99 (by decide) ?_
            exact ret _ (yes (by rw [eh, decide_eq_true c4]))
          · refine ev_if_ge 102 d_Mo_holds_95 (by decide) (fun _ => ?_) (fun z => absurd (i64_lt.mp ((lg_cmp_lt _ _).mp (Int32.not_le.mp z))) c4)
            refine ev_iconst (v := 0) d_Mo_holds_102 (by decide) ?_
            refine ev_goto 146 d_Mo_holds_103 (by decide) ?_
            exact ret _ (no (by rw [eh, decide_eq_false c4]))
      · have eh : hs_B op nu (mval n kf vf v b T sv) = decide (mval n kf vf v b T sv = nu) := by unfold hs_B; rw [if_neg (by rw [c1]; decide), if_pos c1]
        refine ev_lload d_Mo_holds_63 rfl ?_
        refine ev_lload d_Mo_holds_65 rfl ?_
        refine ev_lcmp d_Mo_holds_67 ?_
        refine ev_if_ne 75 d_Mo_holds_68 (by decide) (fun c4 => ?_) (fun c4 => ?_)
        · have c4 : ¬ mval n kf vf v b T sv = nu := fun z => c4 ((lg_cmp_eq _ _).mpr (i64_eq.mpr z))
          refine ev_iconst (v := 0) d_Mo_holds_75 (by decide) ?_
          refine ev_goto 146 d_Mo_holds_76 (by decide) ?_
          exact ret _ (no (by rw [eh, decide_eq_false c4]))
        · have c4 := i64_eq.mp ((lg_cmp_eq _ _).mp c4)
          refine ev_iconst (v := 1) d_Mo_holds_71 (by decide) ?_
          refine ev_goto 146 d_Mo_holds_72 (by decide) ?_
          exact ret _ (yes (by rw [eh, decide_eq_true c4]))
    refine ev_aload_n d_Mo_holds_17 rfl rfl ?_
    refine ev_iload_n d_Mo_holds_18 rfl rfl ?_
    refine ev_callV1 d_Mo_holds_19 ck_Mo_answerOf ml_Mo_246 im_Mo_answerOf se_Mo_answerOf rfl hG.1 (c_Mo_answerOf hG ha hok.1 (fun i hi => ⟨(hok.2.1 i hi).2.1, (hok.2.1 i hi).2.2.1⟩) hT hT2 hv hs hb) (by omega) (Nat.le_of_ble_eq_true rfl) (by omega) (by omega) ?_
    rintro _ _ ⟨⟨o, ho, rfl⟩, rfl⟩
    rcases ma_o hok ho with ⟨o1, o2, o3⟩ | ⟨j, o1, o2, o3, o4, o5⟩
    · have hb0 : b ≠ 0 := fun z => hk (by unfold mval; rw [if_pos o2, if_pos z])
      have h57 := h57 hb0
      rw [o3]
      refine ev_istore_n d_Mo_holds_22 rfl (by decide) ?_
      refine ev_iload_n d_Mo_holds_23 rfl rfl ?_
      refine ev_if_lt 36 d_Mo_holds_24 (by decide) (fun _ => ?_) (fun z => absurd (by decide) z)
      refine ev_aload_n d_Mo_holds_36 rfl rfl ?_
      refine em_getA (i := 57) hG d_Mo_holds_37 fo_Mo_118 rfl ?_
      refine ev_iload_n d_Mo_holds_40 rfl rfl ?_
      refine em_lald (i := 57) (N := 21) hG d_Mo_holds_41 rfl rfl (by decide) (by omega) (by (repeat (first | apply va_up_mt (h := by decide) | apply va_up_ms | apply pk_ut (h := by omega) | apply pk_uLt (h := by omega) | exact pk_us | exact pk_uLs | assumption)); all_goals rfl) ?_
      exact fin _ _ (by unfold mval; rw [if_pos o2, if_neg hb0])
    · have h40 := (ha.2 j o2).2.2
      rw [o5]
      refine ev_istore_n d_Mo_holds_22 rfl (by decide) ?_
      refine ev_iload_n d_Mo_holds_23 rfl rfl ?_
      refine ev_if_lt 36 d_Mo_holds_24 (by decide) (fun z => absurd z (nI_pos (by omega))) (fun _ => ?_)
      refine ev_aload_n d_Mo_holds_27 rfl rfl ?_
      refine em_getA (i := 40) hG d_Mo_holds_28 fo_Mo_87 rfl ?_
      refine ev_iload_n d_Mo_holds_31 rfl rfl ?_
      refine em_lald (i := 40) (N := 200) hG d_Mo_holds_32 rfl rfl (by decide) (by omega) (by (repeat (first | apply va_up_mt (h := by decide) | apply va_up_ms | apply pk_ut (h := by omega) | apply pk_uLt (h := by omega) | exact pk_us | exact pk_uLs | assumption)); all_goals rfl) ?_
      refine ev_goto 42 d_Mo_holds_33 (by decide) ?_
      exact fin _ _ (by unfold mval; rw [if_neg (by rw [o3]; exact o4), o3])
  · have hk := cI_0 hk
    refine ev_iconst (v := 0) d_Mo_holds_15 (by decide) ?_
    exact ev_zret d_Mo_holds_16 rfl rfl (⟨by rw [cI_f (fun z => hk z.1)], rfl⟩)
end MB
