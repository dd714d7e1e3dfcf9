/-! THE MODEL ANSWERS: thrown, wrong, seed, noTest, ended, verdict, undone, shorter, cases, plant -/
theorem ix_of {x : Int32} {n : Nat} (h : ¬ (x < 1 ∨ nI n < x)) (hn : n < 2 ^ 31) : ∃ j, j < n ∧ x = nI (j + 1) := by
  obtain ⟨t, t1, t2, t3⟩ := i32_of (a := 1) (b := n) (Int32.not_lt.mp (fun y => h (Or.inl y))) (Int32.not_lt.mp (fun y => h (Or.inr y))) hn (by omega)
  exact ⟨t - 1, by omega, by rw [t3, show t - 1 + 1 = t by omega]⟩
theorem ix_0 {x : Int32} {n : Nat} (h : ¬ (x < 0 ∨ nI n ≤ x)) (hn : n < 2 ^ 31) : ∃ j, j < n ∧ x = nI j := by
  rcases pk_ix x hn with y | y | y
  · exact absurd (Or.inl y) h
  · exact absurd (Or.inr y) h
  · exact y
section M1
variable {l : Launch} {X : pm_X} {G G0 : pm_G} {a : Nat} {A : Nat → Nat} {I : Nat → Int32} {J : Nat → Int64} {M : Nat → Nat → Int32} {W : Nat → Nat → Int64} {tn rc u n : Nat} {x w L : Int32} {td : Nat → Nat → Int32} {U La Ta Va : Nat → Int32}
theorem c_Mo_thrown {k : Int32} (hG : mo_at G0 a A I J M W G) (h0 : I 0 = k) : cn_M l X m_Mo_thrown 0 0 0 [.ref a] G (fun r G' => r = some (.int k) ∧ G = G') := by
  refine cn_in rfl (Nat.le_of_ble_eq_true rfl) ?_
  refine ev_aload_n d_Mo_thrown_0 rfl rfl ?_
  refine em_getI (i := 0) hG d_Mo_thrown_1 fo_Mo_127 rfl (by (repeat (first | apply va_up_t (h := by decide) | apply mo_w_t (h5 := by decide) (h7 := by decide) (h8 := by decide) | exact va_up_s | exact mo_w_5 | exact mo_w_7 | exact mo_w_8 | assumption)); all_goals rfl) ?_
  exact ev_iret d_Mo_thrown_4 rfl (⟨rfl, rfl⟩)
theorem c_Mo_wrong {k : Int32} (hG : mo_at G0 a A I J M W G) (h0 : I 10 = k) : cn_M l X m_Mo_wrong 0 0 0 [.ref a] G (fun r G' => r = some (.int k) ∧ mo_at G0 a A (va_up I 0 0) J M W G') := by
  refine cn_in rfl (Nat.le_of_ble_eq_true rfl) ?_
  refine ev_aload_n d_Mo_wrong_0 rfl rfl ?_
  refine ev_iconst (v := 0) d_Mo_wrong_1 (by decide) ?_
  refine em_putI (i := 0) hG d_Mo_wrong_2 fo_Mo_127 rfl rfl (by decide) mv_0 (fun G hG => ?_)
  refine ev_aload_n d_Mo_wrong_5 rfl rfl ?_
  refine em_getI (i := 10) hG d_Mo_wrong_6 fo_Mo_238 rfl (by (repeat (first | apply va_up_t (h := by decide) | apply mo_w_t (h5 := by decide) (h7 := by decide) (h8 := by decide) | exact va_up_s | exact mo_w_5 | exact mo_w_7 | exact mo_w_8 | assumption)); all_goals rfl) ?_
  exact ev_iret d_Mo_wrong_9 rfl (⟨rfl, hG⟩)
theorem c_Mo_seed {y : Int64} (hG : mo_at G0 a A I J M W G) : cn_M l X m_Mo_seed 0 0 0 [.ref a, .long y] G (fun r G' => r = some (.int 1) ∧ mo_at G0 a A (va_up I 0 0) (va_up J 43 (y &&& 4294967295)) M W G') := by
  refine cn_in rfl (Nat.le_of_ble_eq_true rfl) ?_
  refine ev_aload_n d_Mo_seed_0 rfl rfl ?_
  refine ev_iconst (v := 0) d_Mo_seed_1 (by decide) ?_
  refine em_putI (i := 0) hG d_Mo_seed_2 fo_Mo_127 rfl rfl (by decide) mv_0 (fun G hG => ?_)
  refine ev_aload_n d_Mo_seed_5 rfl rfl ?_
  refine ev_lload_n d_Mo_seed_6 rfl rfl ?_
  refine ev_ldc2 d_Mo_seed_7 hw_1311 ?_
  refine ev_land d_Mo_seed_10 ?_
  refine em_putJ (i := 43) hG d_Mo_seed_11 fo_Mo_96 rfl rfl (by decide) mv_43 (fun G hG => ?_)
  refine ev_iconst (v := 1) d_Mo_seed_14 (by decide) ?_
  exact ev_iret d_Mo_seed_15 rfl (⟨rfl, hG⟩)
theorem c_Mo_noTest (hG : mo_at G0 a A I J M W G) (h14 : I 14 = nI tn) : cn_M l X m_Mo_noTest 0 0 0 [.ref a, .int x] G (fun r G' => r = some (.int (cI (x < 1 ∨ nI tn < x))) ∧ mo_at G0 a A (va_up I 0 0) J M W G') := by
  refine cn_in rfl (Nat.le_of_ble_eq_true rfl) ?_
  refine ev_aload_n d_Mo_noTest_0 rfl rfl ?_
  refine ev_iconst (v := 0) d_Mo_noTest_1 (by decide) ?_
  refine em_putI (i := 0) hG d_Mo_noTest_2 fo_Mo_127 rfl rfl (by decide) mv_0 (fun G hG => ?_)
  refine ev_iload_n d_Mo_noTest_5 rfl rfl ?_
  refine ev_iconst (v := 1) d_Mo_noTest_6 (by decide) ?_
  refine ev_icmp_lt 18 d_Mo_noTest_7 (by decide) (fun h1 => ?_) (fun h1 => ?_)
  · refine ev_iconst (v := 1) d_Mo_noTest_18 (by decide) ?_
    refine ev_goto 23 d_Mo_noTest_19 (by decide) ?_
    exact ev_zret d_Mo_noTest_23 rfl rfl (⟨by rw [cI_t (Or.inl h1)], hG⟩)
  · refine ev_iload_n d_Mo_noTest_10 rfl rfl ?_
    refine ev_aload_n d_Mo_noTest_11 rfl rfl ?_
    refine em_getI (i := 14) hG d_Mo_noTest_12 fo_Mo_171 rfl (by (repeat (first | apply va_up_t (h := by decide) | apply mo_w_t (h5 := by decide) (h7 := by decide) (h8 := by decide) | exact va_up_s | exact mo_w_5 | exact mo_w_7 | exact mo_w_8 | assumption)); all_goals rfl) ?_
    by_cases h2 : nI tn < x
    · refine ev_icmp_le 22 d_Mo_noTest_15 (by decide) (fun y => absurd h2 (Int32.not_lt.mpr y)) (fun _ => ?_)
      refine ev_iconst (v := 1) d_Mo_noTest_18 (by decide) ?_
      refine ev_goto 23 d_Mo_noTest_19 (by decide) ?_
      exact ev_zret d_Mo_noTest_23 rfl rfl (⟨by rw [cI_t (Or.inr h2)], hG⟩)
    · refine ev_icmp_le 22 d_Mo_noTest_15 (by decide) (fun _ => ?_) (fun y => absurd (Int32.not_le.mp y) h2)
      refine ev_iconst (v := 0) d_Mo_noTest_22 (by decide) ?_
      exact ev_zret d_Mo_noTest_23 rfl rfl (⟨by rw [cI_f (fun y => y.elim h1 h2)], hG⟩)
theorem c_Mo_ended (hG : mo_at G0 a A I J M W G) (h14 : I 14 = nI tn) (ht : tn ≤ 12) (h19 : ∀ j, j < tn → M 19 (j + 1) = td j 5) : cn_M l X m_Mo_ended 1 0 0 [.ref a, .int x] G (fun r G' => (((x < 1 ∨ nI tn < x) ∧ r = some (.int (-1))) ∨ ∃ j, j < tn ∧ x = nI (j + 1) ∧ r = some (.int (td j 5))) ∧ mo_at G0 a A (va_up I 0 0) J M W G') := by
  refine cn_in rfl (Nat.le_of_ble_eq_true rfl) ?_
  refine ev_aload_n d_Mo_ended_0 rfl rfl ?_
  refine ev_iload_n d_Mo_ended_1 rfl rfl ?_
  refine ev_callV1 d_Mo_ended_2 ck_Mo_noTest ml_Mo_305 im_Mo_noTest se_Mo_noTest rfl hG.1 (c_Mo_noTest hG h14) (by omega) (Nat.le_of_ble_eq_true rfl) (by omega) (by omega) ?_
  rintro _ G ⟨rfl, hG⟩
  refine ev_if_eq 12 d_Mo_ended_5 (by decide) (fun h1 => ?_) (fun h1 => ?_)
  · obtain ⟨j, j1, rfl⟩ := ix_of (cI_0 h1) (by omega)
    have hj := h19 j j1
    refine ev_aload_n d_Mo_ended_12 rfl rfl ?_
    refine em_getA (i := 19) hG d_Mo_ended_13 fo_Mo_34 rfl ?_
    refine ev_iload_n d_Mo_ended_16 rfl rfl ?_
    refine em_iald (i := 19) (N := 13) hG d_Mo_ended_17 rfl rfl (by decide) (by omega) (by (repeat (first | apply va_up_mt (h := by decide) | apply va_up_ms | apply pk_ut (h := by omega) | apply pk_uLt (h := by omega) | exact pk_us | exact pk_uLs | assumption)); all_goals rfl) ?_
    exact ev_iret d_Mo_ended_18 rfl (⟨Or.inr ⟨j, j1, rfl, rfl⟩, hG⟩)
  · have h1 := cI_1 h1
    refine ev_iconst (v := -1) d_Mo_ended_8 (by decide) ?_
    refine ev_goto 18 d_Mo_ended_9 (by decide) ?_
    exact ev_iret d_Mo_ended_18 rfl (⟨Or.inl ⟨h1, rfl⟩, hG⟩)
theorem c_Mo_verdict (hG : mo_at G0 a A I J M W G) (h14 : I 14 = nI tn) (ht : tn ≤ 12) (h44 : I 44 = nI rc) (hrc : rc ≤ 8) (h20 : rc ≠ 0 → ∀ j, j < tn → M 20 (j + 1) = td j 6 ∧ M 21 (j + 1) = td j 7 ∧ W 22 (j + 1) = (td j 8).toInt64) : cn_M l X m_Mo_verdict 1 0 0 [.ref a, .int x, .int w] G (fun r G' => (((x < 1 ∨ nI tn < x) ∧ r = some (.int (-1))) ∨ ∃ j, j < tn ∧ x = nI (j + 1) ∧ r = some (.int (if w < 0 ∨ 2 < w then -2 else if rc = 0 then -3 else if w = 0 then td j 6 else if w = 1 then td j 7 else td j 8))) ∧ mo_at G0 a A (va_up I 0 0) J M W G') := by
  refine cn_in rfl (Nat.le_of_ble_eq_true rfl) ?_
  refine ev_aload_n d_Mo_verdict_0 rfl rfl ?_
  refine ev_iload_n d_Mo_verdict_1 rfl rfl ?_
  refine ev_callV1 d_Mo_verdict_2 ck_Mo_noTest ml_Mo_305 im_Mo_noTest se_Mo_noTest rfl hG.1 (c_Mo_noTest hG h14) (by omega) (Nat.le_of_ble_eq_true rfl) (by omega) (by omega) ?_
  rintro _ G ⟨rfl, hG⟩
  refine ev_if_eq 10 d_Mo_verdict_5 (by decide) (fun h1 => ?_) (fun h1 => ?_)
  · obtain ⟨j, j1, rfl⟩ := ix_of (cI_0 h1) (by omega)
    refine ev_iload_n d_Mo_verdict_10 rfl rfl ?_
    have bad : (w < 0 ∨ 2 < w) → ev_W l X m_Mo_verdict 1 0 0 (fun r G' => (((nI (j + 1) < 1 ∨ nI tn < nI (j + 1)) ∧ r = some (.int (-1))) ∨ ∃ k, k < tn ∧ nI (j + 1) = nI (k + 1) ∧ r = some (.int (if w < 0 ∨ 2 < w then -2 else if rc = 0 then -3 else if w = 0 then td k 6 else if w = 1 then td k 7 else td k 8))) ∧ mo_at G0 a A (va_up I 0 0) J M W G') 0 0 19 [(0, .ref a), (1, .int (nI (j + 1))), (2, .int w)] [] G := by
      intro y
      refine ev_bipush (v := -2) d_Mo_verdict_19 (by decide) ?_
      exact ev_iret d_Mo_verdict_21 rfl (⟨Or.inr ⟨j, j1, rfl, by rw [if_pos y]⟩, hG⟩)
    refine ev_if_lt 19 d_Mo_verdict_11 (by decide) (fun h2 => ?_) (fun h2 => ?_)
    · exact bad (Or.inl h2)
    · refine ev_iload_n d_Mo_verdict_14 rfl rfl ?_
      refine ev_iconst (v := 2) d_Mo_verdict_15 (by decide) ?_
      by_cases h3 : 2 < w
      · refine ev_icmp_le 22 d_Mo_verdict_16 (by decide) (fun y => absurd h3 (Int32.not_lt.mpr y)) (fun _ => ?_)
        exact bad (Or.inr h3)
      · refine ev_icmp_le 22 d_Mo_verdict_16 (by decide) (fun _ => ?_) (fun y => absurd (Int32.not_le.mp y) h3)
        have h23 : ¬ (w < 0 ∨ 2 < w) := fun y => y.elim h2 h3
        refine ev_aload_n d_Mo_verdict_22 rfl rfl ?_
        refine em_getI (i := 44) hG d_Mo_verdict_23 fo_Mo_232 rfl (by (repeat (first | apply va_up_t (h := by decide) | apply mo_w_t (h5 := by decide) (h7 := by decide) (h8 := by decide) | exact va_up_s | exact mo_w_5 | exact mo_w_7 | exact mo_w_8 | assumption)); all_goals rfl) ?_
        by_cases hr0 : rc = 0
        · rw [hr0]
          refine ev_if_ne 32 d_Mo_verdict_26 (by decide) (fun y => absurd rfl y) (fun _ => ?_)
          refine ev_bipush (v := -3) d_Mo_verdict_29 (by decide) ?_
          exact ev_iret d_Mo_verdict_31 rfl (⟨Or.inr ⟨j, j1, rfl, by rw [if_neg h23, if_pos rfl]⟩, hG⟩)
        · refine ev_if_ne 32 d_Mo_verdict_26 (by decide) (fun _ => ?_) (fun y => absurd y (nI_ne0 (by omega) (by omega)))
          obtain ⟨v1, v2, v3⟩ := h20 hr0 j j1
          refine ev_iload_n d_Mo_verdict_32 rfl rfl ?_
          by_cases w0 : w = 0
          · subst w0
            refine ev_if_ne 45 d_Mo_verdict_33 (by decide) (fun y => absurd rfl y) (fun _ => ?_)
            refine ev_aload_n d_Mo_verdict_36 rfl rfl ?_
            refine em_getA (i := 20) hG d_Mo_verdict_37 fo_Mo_37 rfl ?_
            refine ev_iload_n d_Mo_verdict_40 rfl rfl ?_
            refine em_iald (i := 20) (N := 13) hG d_Mo_verdict_41 rfl rfl (by decide) (by omega) (by (repeat (first | apply va_up_mt (h := by decide) | apply va_up_ms | apply pk_ut (h := by omega) | apply pk_uLt (h := by omega) | exact pk_us | exact pk_uLs | assumption)); all_goals rfl) ?_
            refine ev_goto 66 d_Mo_verdict_42 (by decide) ?_
            exact ev_iret d_Mo_verdict_66 rfl (⟨Or.inr ⟨j, j1, rfl, by rw [if_neg h23, if_neg hr0, if_pos rfl]⟩, hG⟩)
          · refine ev_if_ne 45 d_Mo_verdict_33 (by decide) (fun _ => ?_) (fun y => absurd y w0)
            refine ev_iload_n d_Mo_verdict_45 rfl rfl ?_
            refine ev_iconst (v := 1) d_Mo_verdict_46 (by decide) ?_
            by_cases w1 : w = 1
            · subst w1
              refine ev_icmp_ne 59 d_Mo_verdict_47 (by decide) (fun y => absurd rfl y) (fun _ => ?_)
              refine ev_aload_n d_Mo_verdict_50 rfl rfl ?_
              refine em_getA (i := 21) hG d_Mo_verdict_51 fo_Mo_40 rfl ?_
              refine ev_iload_n d_Mo_verdict_54 rfl rfl ?_
              refine em_iald (i := 21) (N := 13) hG d_Mo_verdict_55 rfl rfl (by decide) (by omega) (by (repeat (first | apply va_up_mt (h := by decide) | apply va_up_ms | apply pk_ut (h := by omega) | apply pk_uLt (h := by omega) | exact pk_us | exact pk_uLs | assumption)); all_goals rfl) ?_
              refine ev_goto 66 d_Mo_verdict_56 (by decide) ?_
              exact ev_iret d_Mo_verdict_66 rfl (⟨Or.inr ⟨j, j1, rfl, by rw [if_neg h23, if_neg hr0, if_neg w0, if_pos rfl]⟩, hG⟩)
            · refine ev_icmp_ne 59 d_Mo_verdict_47 (by decide) (fun _ => ?_) (fun y => absurd y w1)
              refine ev_aload_n d_Mo_verdict_59 rfl rfl ?_
              refine em_getA (i := 22) hG d_Mo_verdict_60 fo_Mo_43 rfl ?_
              refine ev_iload_n d_Mo_verdict_63 rfl rfl ?_
              refine em_lald (i := 22) (N := 13) hG d_Mo_verdict_64 rfl rfl (by decide) (by omega) (by (repeat (first | apply va_up_mt (h := by decide) | apply va_up_ms | apply pk_ut (h := by omega) | apply pk_uLt (h := by omega) | exact pk_us | exact pk_uLs | assumption)); all_goals rfl) ?_
              refine ev_l2i d_Mo_verdict_65 ?_
              rw [i64_i32]
              exact ev_iret d_Mo_verdict_66 rfl (⟨Or.inr ⟨j, j1, rfl, by rw [if_neg h23, if_neg hr0, if_neg w0, if_neg w1]⟩, hG⟩)
  · have h1 := cI_1 h1
    refine ev_iconst (v := -1) d_Mo_verdict_8 (by decide) ?_
    exact ev_iret d_Mo_verdict_9 rfl (⟨Or.inl ⟨h1, rfl⟩, hG⟩)
theorem c_Mo_undone (hG : mo_at G0 a A I J M W G) (h44 : I 44 = nI rc) (hrc : rc ≤ 8) (hu : u ≤ 100) (h49 : rc ≠ 0 → I 49 = nI u) (h50 : rc ≠ 0 → ∀ j, j < u → M 50 j = U j) : cn_M l X m_Mo_undone 0 0 0 [.ref a, .int x] G (fun r G' => r = some (.int (if rc = 0 then 0 else if x < 0 ∨ nI u ≤ x then 0 else U x.toNatClampNeg)) ∧ mo_at G0 a A (va_up I 0 0) J M W G') := by
  refine cn_in rfl (Nat.le_of_ble_eq_true rfl) ?_
  have zero : ∀ (G : pm_G), (rc = 0 ∨ x < 0 ∨ nI u ≤ x) → mo_at G0 a A (va_up I 0 0) J M W G → ev_W l X m_Mo_undone 0 0 0 (fun r G' => r = some (.int (if rc = 0 then 0 else if x < 0 ∨ nI u ≤ x then 0 else U x.toNatClampNeg)) ∧ mo_at G0 a A (va_up I 0 0) J M W G') 0 0 24 [(0, .ref a), (1, .int x)] [] G := by
    intro G y hG
    refine ev_iconst (v := 0) d_Mo_undone_24 (by decide) ?_
    refine ev_goto 34 d_Mo_undone_25 (by decide) ?_
    refine ev_iret d_Mo_undone_34 rfl ⟨?_, hG⟩
    by_cases r0 : rc = 0
    · rw [if_pos r0]
    · rw [if_neg r0, if_pos (y.resolve_left r0)]
  refine ev_aload_n d_Mo_undone_0 rfl rfl ?_
  refine ev_iconst (v := 0) d_Mo_undone_1 (by decide) ?_
  refine em_putI (i := 0) hG d_Mo_undone_2 fo_Mo_127 rfl rfl (by decide) mv_0 (fun G hG => ?_)
  refine ev_aload_n d_Mo_undone_5 rfl rfl ?_
  refine em_getI (i := 44) hG d_Mo_undone_6 fo_Mo_232 rfl (by (repeat (first | apply va_up_t (h := by decide) | apply mo_w_t (h5 := by decide) (h7 := by decide) (h8 := by decide) | exact va_up_s | exact mo_w_5 | exact mo_w_7 | exact mo_w_8 | assumption)); all_goals rfl) ?_
  by_cases r0 : rc = 0
  · rw [r0]
    refine ev_if_eq 24 d_Mo_undone_9 (by decide) (fun _ => ?_) (fun y => absurd rfl y)
    have := zero G (Or.inl r0) hG
    rw [r0] at this
    exact this
  · refine ev_if_eq 24 d_Mo_undone_9 (by decide) (fun y => absurd y (nI_ne0 (by omega) (by omega))) (fun _ => ?_)
    have g49 := h49 r0
    refine ev_iload_n d_Mo_undone_12 rfl rfl ?_
    refine ev_if_lt 24 d_Mo_undone_13 (by decide) (fun h1 => ?_) (fun h1 => ?_)
    · exact zero G (Or.inr (Or.inl h1)) hG
    · refine ev_iload_n d_Mo_undone_16 rfl rfl ?_
      refine ev_aload_n d_Mo_undone_17 rfl rfl ?_
      refine em_getI (i := 49) hG d_Mo_undone_18 fo_Mo_298 rfl (by (repeat (first | apply va_up_t (h := by decide) | apply mo_w_t (h5 := by decide) (h7 := by decide) (h8 := by decide) | exact va_up_s | exact mo_w_5 | exact mo_w_7 | exact mo_w_8 | assumption)); all_goals rfl) ?_
      by_cases h2 : nI u ≤ x
      · refine ev_icmp_lt 28 d_Mo_undone_21 (by decide) (fun y => absurd h2 (Int32.not_le.mpr y)) (fun _ => ?_)
        exact zero G (Or.inr (Or.inr h2)) hG
      · refine ev_icmp_lt 28 d_Mo_undone_21 (by decide) (fun _ => ?_) (fun y => absurd (Int32.not_lt.mp y) h2)
        obtain ⟨j, j1, rfl⟩ := ix_0 (fun y => y.elim h1 h2) (by omega)
        have hj := h50 r0 j j1
        refine ev_aload_n d_Mo_undone_28 rfl rfl ?_
        refine em_getA (i := 50) hG d_Mo_undone_29 fo_Mo_112 rfl ?_
        refine ev_iload_n d_Mo_undone_32 rfl rfl ?_
        refine em_iald (i := 50) (N := 100) hG d_Mo_undone_33 rfl rfl (by decide) (by omega) (by (repeat (first | apply va_up_mt (h := by decide) | apply va_up_ms | apply pk_ut (h := by omega) | apply pk_uLt (h := by omega) | exact pk_us | exact pk_uLs | assumption)); all_goals rfl) ?_
        exact ev_iret d_Mo_undone_34 rfl (⟨by rw [if_neg r0, if_neg (fun y => y.elim h1 h2), nI_clamp (by omega)], hG⟩)
theorem c_Mo_shorter (hG : mo_at G0 a A I J M W G) (h44 : I 44 = nI rc) (hrc : rc ≤ 8) (h45 : rc ≠ 0 → M 45 (rc - 1) = nI n) (h51 : rc ≠ 0 → I 51 = L ∧ (L = -1 ∨ ∃ k, k ≤ 2000 ∧ L = nI k)) : cn_M l X m_Mo_shorter 0 0 0 [.ref a] G (fun r G' => r = some (.int (if rc = 0 then -3 else if L = -1 then nI n else L)) ∧ mo_at G0 a A (va_up I 0 0) J M W G') := by
  refine cn_in rfl (Nat.le_of_ble_eq_true rfl) ?_
  refine ev_aload_n d_Mo_shorter_0 rfl rfl ?_
  refine ev_iconst (v := 0) d_Mo_shorter_1 (by decide) ?_
  refine em_putI (i := 0) hG d_Mo_shorter_2 fo_Mo_127 rfl rfl (by decide) mv_0 (fun G hG => ?_)
  refine ev_aload_n d_Mo_shorter_5 rfl rfl ?_
  refine em_getI (i := 44) hG d_Mo_shorter_6 fo_Mo_232 rfl (by (repeat (first | apply va_up_t (h := by decide) | apply mo_w_t (h5 := by decide) (h7 := by decide) (h8 := by decide) | exact va_up_s | exact mo_w_5 | exact mo_w_7 | exact mo_w_8 | assumption)); all_goals rfl) ?_
  by_cases r0 : rc = 0
  · rw [r0]
    refine ev_if_ne 17 d_Mo_shorter_9 (by decide) (fun y => absurd rfl y) (fun _ => ?_)
    refine ev_bipush (v := -3) d_Mo_shorter_12 (by decide) ?_
    refine ev_goto 42 d_Mo_shorter_14 (by decide) ?_
    exact ev_iret d_Mo_shorter_42 rfl (⟨rfl, hG⟩)
  · refine ev_if_ne 17 d_Mo_shorter_9 (by decide) (fun _ => ?_) (fun y => absurd y (nI_ne0 (by omega) (by omega)))
    obtain ⟨g51, hL⟩ := h51 r0
    have g45 := h45 r0
    refine ev_aload_n d_Mo_shorter_17 rfl rfl ?_
    refine em_getI (i := 51) hG d_Mo_shorter_18 fo_Mo_266 rfl (by (repeat (first | apply va_up_t (h := by decide) | apply mo_w_t (h5 := by decide) (h7 := by decide) (h8 := by decide) | exact va_up_s | exact mo_w_5 | exact mo_w_7 | exact mo_w_8 | assumption)); all_goals rfl) ?_
    by_cases hl : L = -1
    · refine ev_if_ge 38 d_Mo_shorter_21 (by decide) (fun y => absurd y (by rw [hl]; decide)) (fun _ => ?_)
      refine ev_aload_n d_Mo_shorter_24 rfl rfl ?_
      refine em_getA (i := 45) hG d_Mo_shorter_25 fo_Mo_100 rfl ?_
      refine ev_aload_n d_Mo_shorter_28 rfl rfl ?_
      refine em_getI (i := 44) hG d_Mo_shorter_29 fo_Mo_232 rfl (by (repeat (first | apply va_up_t (h := by decide) | apply mo_w_t (h5 := by decide) (h7 := by decide) (h8 := by decide) | exact va_up_s | exact mo_w_5 | exact mo_w_7 | exact mo_w_8 | assumption)); all_goals rfl) ?_
      refine ev_iconst (v := 1) d_Mo_shorter_32 (by decide) ?_
      refine ev_isub d_Mo_shorter_33 ?_
      rw [show (nI rc - 1 : Int32) = nI (rc - 1) from pk_sub (b := 1) (by omega)]
      refine em_iald (i := 45) (N := 8) hG d_Mo_shorter_34 rfl rfl (by decide) (by omega) (by (repeat (first | apply va_up_mt (h := by decide) | apply va_up_ms | apply pk_ut (h := by omega) | apply pk_uLt (h := by omega) | exact pk_us | exact pk_uLs | assumption)); all_goals rfl) ?_
      refine ev_goto 42 d_Mo_shorter_35 (by decide) ?_
      exact ev_iret d_Mo_shorter_42 rfl (⟨by rw [if_neg r0, if_pos hl], hG⟩)
    · obtain ⟨k, k1, k2⟩ := hL.resolve_left hl
      refine ev_if_ge 38 d_Mo_shorter_21 (by decide) (fun _ => ?_) (fun y => absurd (by rw [k2]; exact nI_pos' (by omega)) y)
      refine ev_aload_n d_Mo_shorter_38 rfl rfl ?_
      refine em_getI (i := 51) hG d_Mo_shorter_39 fo_Mo_266 rfl (by (repeat (first | apply va_up_t (h := by decide) | apply mo_w_t (h5 := by decide) (h7 := by decide) (h8 := by decide) | exact va_up_s | exact mo_w_5 | exact mo_w_7 | exact mo_w_8 | assumption)); all_goals rfl) ?_
      exact ev_iret d_Mo_shorter_42 rfl (⟨by rw [if_neg r0, if_neg hl], hG⟩)
set_option maxHeartbeats 1000000 in
theorem c_Mo_cases (hG : mo_at G0 a A I J M W G) (h44 : I 44 = nI rc) (hrc : rc ≤ 8) (hn : n ≤ 2000) (h45 : rc ≠ 0 → M 45 (rc - 1) = nI n) (hrow : rc ≠ 0 → ∀ k, k < n → M 46 (2000 * (rc - 1) + k) = La k ∧ W 47 (2000 * (rc - 1) + k) = (Ta k).toInt64 ∧ W 48 (2000 * (rc - 1) + k) = (Va k).toInt64) : cn_M l X m_Mo_cases 0 0 0 [.ref a, .int x, .int w] G (fun r G' => r = some (.int (if rc = 0 ∨ x < 0 ∨ nI n ≤ x then -1 else if w < 0 ∨ 2 < w then -2 else if w = 0 then La x.toNatClampNeg else if w = 1 then Ta x.toNatClampNeg else Va x.toNatClampNeg)) ∧ mo_at G0 a A (va_up I 0 0) J M W G') := by
  refine cn_in rfl (Nat.le_of_ble_eq_true rfl) ?_
  have bad : ∀ (G : pm_G), (rc = 0 ∨ x < 0 ∨ nI n ≤ x) → mo_at G0 a A (va_up I 0 0) J M W G → ev_W l X m_Mo_cases 0 0 0 (fun r G' => r = some (.int (if rc = 0 ∨ x < 0 ∨ nI n ≤ x then -1 else if w < 0 ∨ 2 < w then -2 else if w = 0 then La x.toNatClampNeg else if w = 1 then Ta x.toNatClampNeg else Va x.toNatClampNeg)) ∧ mo_at G0 a A (va_up I 0 0) J M W G') 0 0 31 [(0, .ref a), (1, .int x), (2, .int w)] [] G := by
    intro G y hG
    refine ev_iconst (v := -1) d_Mo_cases_31 (by decide) ?_
    exact ev_iret d_Mo_cases_32 rfl (⟨by rw [if_pos y], hG⟩)
  refine ev_aload_n d_Mo_cases_0 rfl rfl ?_
  refine ev_iconst (v := 0) d_Mo_cases_1 (by decide) ?_
  refine em_putI (i := 0) hG d_Mo_cases_2 fo_Mo_127 rfl rfl (by decide) mv_0 (fun G hG => ?_)
  refine ev_aload_n d_Mo_cases_5 rfl rfl ?_
  refine em_getI (i := 44) hG d_Mo_cases_6 fo_Mo_232 rfl (by (repeat (first | apply va_up_t (h := by decide) | apply mo_w_t (h5 := by decide) (h7 := by decide) (h8 := by decide) | exact va_up_s | exact mo_w_5 | exact mo_w_7 | exact mo_w_8 | assumption)); all_goals rfl) ?_
  by_cases r0 : rc = 0
  · refine ev_if_eq 31 d_Mo_cases_9 (by decide) (fun _ => ?_) (fun y => absurd (by rw [r0]; rfl) y)
    exact bad G (Or.inl r0) hG
  · refine ev_if_eq 31 d_Mo_cases_9 (by decide) (fun y => absurd y (nI_ne0 (by omega) (by omega))) (fun _ => ?_)
    have g45 := h45 r0
    refine ev_iload_n d_Mo_cases_12 rfl rfl ?_
    refine ev_if_lt 31 d_Mo_cases_13 (by decide) (fun h1 => ?_) (fun h1 => ?_)
    · exact bad G (Or.inr (Or.inl h1)) hG
    · refine ev_iload_n d_Mo_cases_16 rfl rfl ?_
      refine ev_aload_n d_Mo_cases_17 rfl rfl ?_
      refine em_getA (i := 45) hG d_Mo_cases_18 fo_Mo_100 rfl ?_
      refine ev_aload_n d_Mo_cases_21 rfl rfl ?_
      refine em_getI (i := 44) hG d_Mo_cases_22 fo_Mo_232 rfl (by (repeat (first | apply va_up_t (h := by decide) | apply mo_w_t (h5 := by decide) (h7 := by decide) (h8 := by decide) | exact va_up_s | exact mo_w_5 | exact mo_w_7 | exact mo_w_8 | assumption)); all_goals rfl) ?_
      refine ev_iconst (v := 1) d_Mo_cases_25 (by decide) ?_
      refine ev_isub d_Mo_cases_26 ?_
      rw [show (nI rc - 1 : Int32) = nI (rc - 1) from pk_sub (b := 1) (by omega)]
      refine em_iald (i := 45) (N := 8) hG d_Mo_cases_27 rfl rfl (by decide) (by omega) (by (repeat (first | apply va_up_mt (h := by decide) | apply va_up_ms | apply pk_ut (h := by omega) | apply pk_uLt (h := by omega) | exact pk_us | exact pk_uLs | assumption)); all_goals rfl) ?_
      by_cases h2 : nI n ≤ x
      · refine ev_icmp_lt 33 d_Mo_cases_28 (by decide) (fun y => absurd h2 (Int32.not_le.mpr y)) (fun _ => ?_)
        exact bad G (Or.inr (Or.inr h2)) hG
      · refine ev_icmp_lt 33 d_Mo_cases_28 (by decide) (fun _ => ?_) (fun y => absurd (Int32.not_lt.mp y) h2)
        have hok : ¬ (rc = 0 ∨ x < 0 ∨ nI n ≤ x) := fun y => y.elim r0 (fun y => y.elim h1 h2)
        obtain ⟨j, j1, rfl⟩ := ix_0 (fun y => y.elim h1 h2) (by omega)
        obtain ⟨v1, v2, v3⟩ := hrow r0 j j1
        have ec : (nI j).toNatClampNeg = j := nI_clamp (by omega)
        rw [if_neg hok, ec]
        refine ev_sipush (v := 2000) d_Mo_cases_33 (by decide) ?_
        refine ev_aload_n d_Mo_cases_36 rfl rfl ?_
        refine em_getI (i := 44) hG d_Mo_cases_37 fo_Mo_232 rfl (by (repeat (first | apply va_up_t (h := by decide) | apply mo_w_t (h5 := by decide) (h7 := by decide) (h8 := by decide) | exact va_up_s | exact mo_w_5 | exact mo_w_7 | exact mo_w_8 | assumption)); all_goals rfl) ?_
        refine ev_iconst (v := 1) d_Mo_cases_40 (by decide) ?_
        refine ev_isub d_Mo_cases_41 ?_
        rw [show (nI rc - 1 : Int32) = nI (rc - 1) from pk_sub (b := 1) (by omega), show (2000 : Int32) = nI 2000 from rfl]
        refine ev_imul d_Mo_cases_42 ?_
        rw [pk_mul]
        refine ev_iload_n d_Mo_cases_43 rfl rfl ?_
        refine ev_iadd d_Mo_cases_44 ?_
        rw [nI_add]
        refine ev_istore_n d_Mo_cases_45 rfl (by decide) ?_
        refine ev_iload_n d_Mo_cases_46 rfl rfl ?_
        by_cases w0 : w = 0
        · subst w0
          refine ev_if_ne 59 d_Mo_cases_47 (by decide) (fun y => absurd rfl y) (fun _ => ?_)
          refine ev_aload_n d_Mo_cases_50 rfl rfl ?_
          refine em_getA (i := 46) hG d_Mo_cases_51 fo_Mo_103 rfl ?_
          refine ev_iload_n d_Mo_cases_54 rfl rfl ?_
          refine em_iald (i := 46) (N := 16000) hG d_Mo_cases_55 rfl rfl (by decide) (by omega) (by (repeat (first | apply va_up_mt (h := by decide) | apply va_up_ms | apply pk_ut (h := by omega) | apply pk_uLt (h := by omega) | exact pk_us | exact pk_uLs | assumption)); all_goals rfl) ?_
          refine ev_goto 91 d_Mo_cases_56 (by decide) ?_
          exact ev_iret d_Mo_cases_91 rfl (⟨by rw [if_neg (by decide), if_pos rfl], hG⟩)
        · refine ev_if_ne 59 d_Mo_cases_47 (by decide) (fun _ => ?_) (fun y => absurd y w0)
          refine ev_iload_n d_Mo_cases_59 rfl rfl ?_
          refine ev_iconst (v := 1) d_Mo_cases_60 (by decide) ?_
          by_cases w1 : w = 1
          · subst w1
            refine ev_icmp_ne 74 d_Mo_cases_61 (by decide) (fun y => absurd rfl y) (fun _ => ?_)
            refine ev_aload_n d_Mo_cases_64 rfl rfl ?_
            refine em_getA (i := 47) hG d_Mo_cases_65 fo_Mo_106 rfl ?_
            refine ev_iload_n d_Mo_cases_68 rfl rfl ?_
            refine em_lald (i := 47) (N := 16000) hG d_Mo_cases_69 rfl rfl (by decide) (by omega) (by (repeat (first | apply va_up_mt (h := by decide) | apply va_up_ms | apply pk_ut (h := by omega) | apply pk_uLt (h := by omega) | exact pk_us | exact pk_uLs | assumption)); all_goals rfl) ?_
            refine ev_l2i d_Mo_cases_70 ?_
            rw [i64_i32]
            refine ev_goto 91 d_Mo_cases_71 (by decide) ?_
            exact ev_iret d_Mo_cases_91 rfl (⟨by rw [if_neg (by decide), if_neg (by decide), if_pos rfl], hG⟩)
          · refine ev_icmp_ne 74 d_Mo_cases_61 (by decide) (fun _ => ?_) (fun y => absurd y w1)
            refine ev_iload_n d_Mo_cases_74 rfl rfl ?_
            refine ev_iconst (v := 2) d_Mo_cases_75 (by decide) ?_
            by_cases w2 : w = 2
            · subst w2
              refine ev_icmp_ne 89 d_Mo_cases_76 (by decide) (fun y => absurd rfl y) (fun _ => ?_)
              refine ev_aload_n d_Mo_cases_79 rfl rfl ?_
              refine em_getA (i := 48) hG d_Mo_cases_80 fo_Mo_109 rfl ?_
              refine ev_iload_n d_Mo_cases_83 rfl rfl ?_
              refine em_lald (i := 48) (N := 16000) hG d_Mo_cases_84 rfl rfl (by decide) (by omega) (by (repeat (first | apply va_up_mt (h := by decide) | apply va_up_ms | apply pk_ut (h := by omega) | apply pk_uLt (h := by omega) | exact pk_us | exact pk_uLs | assumption)); all_goals rfl) ?_
              refine ev_l2i d_Mo_cases_85 ?_
              rw [i64_i32]
              refine ev_goto 91 d_Mo_cases_86 (by decide) ?_
              exact ev_iret d_Mo_cases_91 rfl (⟨by rw [if_neg (by decide), if_neg (by decide), if_neg (by decide)], hG⟩)
            · refine ev_icmp_ne 89 d_Mo_cases_76 (by decide) (fun _ => ?_) (fun y => absurd y w2)
              refine ev_bipush (v := -2) d_Mo_cases_89 (by decide) ?_
              refine ev_iret d_Mo_cases_91 rfl ⟨?_, hG⟩
              rw [if_pos]
              apply Classical.byContradiction
              intro y
              have y1 : (0 : Int32) ≤ w := Int32.not_lt.mp (fun q => y (Or.inl q))
              have y2 : w ≤ 2 := Int32.not_lt.mp (fun q => y (Or.inr q))
              obtain ⟨t, t1, t2, t3⟩ := i32_of (a := 0) (b := 2) y1 y2 (by omega) (by omega)
              have : t = 0 ∨ t = 1 ∨ t = 2 := by omega
              rcases this with rfl | rfl | rfl
              · exact w0 t3
              · exact w1 t3
              · exact w2 t3
end M1
