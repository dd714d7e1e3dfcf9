/-! THE MODEL READS: read0, read -/
/-- the fields that stay while the model reads all lines -/
def mq_fr (I I' : Nat → Int32) (J J' : Nat → Int64) (M M' : Nat → Nat → Int32) : Prop := (∀ i, i < 5 ∨ i = 10 ∨ (36 < i) → I' i = I i) ∧ (∀ i, i ≠ 9 → J' i = J i) ∧ M' 2 = M 2 ∧ M' 4 = M 4 ∧ M' 42 = M 42
theorem mq_fr.rf {I : Nat → Int32} {J : Nat → Int64} {M : Nat → Nat → Int32} : mq_fr I I J J M M := ⟨fun _ _ => rfl, fun _ _ => rfl, rfl, rfl, rfl⟩
theorem mq_fr.mp {I I1 I2 : Nat → Int32} {J J1 J2 : Nat → Int64} {M M1 M2 : Nat → Nat → Int32} (h : mq_fr I I1 J J1 M M1) (g : mp_fr I1 I2 J1 J2 M1 M2) : mq_fr I I2 J J2 M M2 := ⟨fun i hi => (g.1 i (by omega)).trans (h.1 i hi), fun i hi => (g.2.1 i hi).trans (h.2.1 i hi), g.2.2.1.trans h.2.2.1, g.2.2.2.1.trans h.2.2.2.1, g.2.2.2.2.trans h.2.2.2.2⟩
theorem mq_fr.i {I I' : Nat → Int32} {J J' : Nat → Int64} {M M' : Nat → Nat → Int32} {i : Nat} {x : Int32} (h : mq_fr I I' J J' M M') (hi : 4 < i ∧ i ≠ 10 ∧ i ≤ 36) : mq_fr I (va_up I' i x) J J' M M' := ⟨fun k hk => (va_up_n (by omega)).trans (h.1 k hk), h.2⟩
theorem mq_fr.m {I I' : Nat → Int32} {J J' : Nat → Int64} {M M' : Nat → Nat → Int32} {i : Nat} {x : Nat → Int32} (h : mq_fr I I' J J' M M') (hi : i ≠ 2 ∧ i ≠ 4 ∧ i ≠ 42) : mq_fr I I' J J' M (va_up M' i x) := ⟨h.1, h.2.1, (va_up_n hi.1.symm).trans h.2.2.1, (va_up_n hi.2.1.symm).trans h.2.2.2.1, (va_up_n hi.2.2.symm).trans h.2.2.2.2⟩
theorem mp_ok.ci {sg : Nat → Nat} {N c : Nat} {z : pz} {I I' : Nat → Int32} {M : Nat → Nat → Int32} {W : Nat → Nat → Int64} (h : mp_ok sg N c z I M W) (hi : ∀ i, 10 < i → I' i = I i) : mp_ok sg N c z I' M W := by
  obtain ⟨p1, p2, p3, p4, p5, hr⟩ := h
  exact ⟨(hi 11 (by decide)).trans p1, (hi 14 (by decide)).trans p2, (hi 23 (by decide)).trans p3, (hi 36 (by decide)).trans p4, (hi 34 (by decide)).trans p5, hr⟩
def r0_Q (G0 : pm_G) (a : Nat) (A : Nat → Nat) (sg : Nat → Nat) (n : Nat) (I : Nat → Int32) (J : Nat → Int64) (M : Nat → Nat → Int32) (res : Nat × Option pz) (r : Option Value) (G' : pm_G) : Prop :=
  ∃ (I' : Nat → Int32) (J' : Nat → Int64) (M' : Nat → Nat → Int32) (W' : Nat → Nat → Int64), r = some (.int (nI res.1)) ∧ res.1 ≤ n + 2 ∧ mo_at G0 a A I' J' M' W' G' ∧ mq_fr I I' J J' M M' ∧ (match res.2 with
    | none => 0 < res.1
    | some z' => res.1 = 0 ∧ zDp z' = 0 ∧ pz_ok z' ∧ M' 17 (zTn z' + 1) = nI (zSn z') ∧ ∃ c, c ≤ 2000 ∧ mp_ok sg n c z' I' M' W')
section MZ
variable {l : Launch} {X : pm_X} {G G0 : pm_G} {a : Nat} {A : Nat → Nat} {I : Nat → Int32} {J : Nat → Int64} {M : Nat → Nat → Int32} {W : Nat → Nat → Int64} {sg : Nat → Nat} {n c : Nat} {z : pz}
set_option maxHeartbeats 1000000 in
theorem c_Mo_read0 (hk : mk_ok sg M n) (hn : n ≤ 4000) (hzo : pz_ok z) (h : mp_ok sg n 0 z I M W) (h3 : I 3 = nI n) (hG : mo_at G0 a A I J M W G) : cn_M l X m_Mo_read0 6 0 0 [.ref a] G (r0_Q G0 a A sg n I J M (pz_rd sg n (n + 1) 0 0 z)) := by
  refine cn_in rfl (Nat.le_of_ble_eq_true rfl) ?_
  have loop : ∀ (fu k b c : Nat) (z : pz) (I1 : Nat → Int32) (J1 : Nat → Int64) (M1 : Nat → Nat → Int32) (W1 : Nat → Nat → Int64) (G : pm_G), n - b < fu → b ≤ n + 1 → k ≤ b → 2 * c ≤ b → pz_ok z → mp_ok sg n c z I1 M1 W1 → mq_fr I I1 J J1 M M1 → mo_at G0 a A I1 J1 M1 W1 G → ev_W l X m_Mo_read0 6 0 0 (r0_Q G0 a A sg n I J M (pz_rd sg n fu k b z)) 0 0 4 [(0, .ref a), (1, .int (nI (k + 1))), (2, .int (nI b))] [] G := by
    intro fu
    induction fu with
    | zero => intro k b c z I1 J1 M1 W1 G h0; omega
    | succ fu ih =>
      intro k b c z I1 J1 M1 W1 G hfu hb hkb hcb hzo h hf hG
      have hi3 : I1 3 = nI n := (hf.1 3 (by omega)).trans h3
      have hk1 : mk_ok sg M1 n := fun i hi => by rw [hf.2.2.2.1]; exact hk i hi
      obtain ⟨p1, p2, p3, p4, p5, p6, p7, p8, p9, p10, p11, p12⟩ := id h
      have hz := hzo.1
      have t12 := hz.2.2.1
      have d8 := hz.2.2.2.2.2.2.2.2.1
      by_cases hbn : b < n
      · -- a line
        have line : ∀ (e : Nat) (G : pm_G), b ≤ e → e ≤ n → l_en sg (n - b) b = e → mo_at G0 a A (va_up I1 6 (nI e)) J1 M1 W1 G → ev_W l X m_Mo_read0 6 0 0 (r0_Q G0 a A sg n I J M (pz_rd sg n (fu + 1) k b z)) 0 0 55 [(0, .ref a), (1, .int (nI (k + 1))), (2, .int (nI b))] [] G := by
          intro e G hbe hen hle hG
          have ep : pz_rd sg n (fu + 1) k b z = if 0 < w_c sg b e then (match pz_line sg b e (k + 1) z with
              | none => (k + 1, none)
              | some z' => pz_rd sg n fu (k + 1) (e + 1) z') else pz_rd sg n fu (k + 1) (e + 1) z := by
            rw [pz_rd, if_pos hbn, hle]
            rfl
          have c0 := wc_lt (sg := sg) hbe (j := 0) (by omega)
          rw [ep]
          have next : ∀ (c : Nat) (z : pz) (I2 : Nat → Int32) (J2 : Nat → Int64) (M2 : Nat → Nat → Int32) (W2 : Nat → Nat → Int64) (G : pm_G), 2 * c ≤ e → pz_ok z → mp_ok sg n c z I2 M2 W2 → mq_fr I I2 J J2 M M2 → I2 6 = nI e → mo_at G0 a A I2 J2 M2 W2 G → ev_W l X m_Mo_read0 6 0 0 (r0_Q G0 a A sg n I J M (pz_rd sg n fu (k + 1) (e + 1) z)) 0 0 77 [(0, .ref a), (1, .int (nI (k + 1))), (2, .int (nI b))] [] G := by
            intro c z I2 J2 M2 W2 G hc2 hz2 hm2 hf2 hi6 hG
            refine ev_iinc d_Mo_read0_77 rfl (by first | exact nI_1 _ | rfl) (by decide) ?_
            refine ev_aload_n d_Mo_read0_80 rfl rfl ?_
            refine em_getI (i := 6) hG d_Mo_read0_81 fo_Mo_137 rfl (by (repeat (first | apply va_up_t (h := by decide) | apply mo_w_t (h5 := by decide) (h7 := by decide) (h8 := by decide) | exact va_up_s | exact mo_w_5 | exact mo_w_7 | exact mo_w_8 | assumption)); all_goals rfl) ?_
            refine ev_iconst (v := 1) d_Mo_read0_84 (by decide) ?_
            refine ev_iadd d_Mo_read0_85 ?_
            rw [nI_1]
            refine ev_istore_n d_Mo_read0_86 rfl (by decide) ?_
            refine ev_goto 4 d_Mo_read0_87 (by decide) ?_
            exact ih (k + 1) (e + 1) c z I2 J2 M2 W2 G (by omega) (by omega) (by omega) (by omega) hz2 hm2 hf2 hG
          have mh : mp_ok sg n c z (mo_w (va_up (va_up I1 6 (nI e)) 5 (nI b)) (w_w sg b e 0).1 (w_w sg b e 0).2) M1 W1 := h.ci (fun i hi => by rw [mo_w_n (by omega) (by omega) (by omega), va_up_n (by omega), va_up_n (by omega)])
          have mf : mq_fr I (mo_w (va_up (va_up I1 6 (nI e)) 5 (nI b)) (w_w sg b e 0).1 (w_w sg b e 0).2) J J1 M M1 := ((hf.i (by decide)).i (by decide)).mp mp_fr.w
          have hi6 : mo_w (va_up (va_up I1 6 (nI e)) 5 (nI b)) (w_w sg b e 0).1 (w_w sg b e 0).2 6 = nI e := (by (repeat (first | apply va_up_t (h := by decide) | apply mo_w_t (h5 := by decide) (h7 := by decide) (h8 := by decide) | exact va_up_s | exact mo_w_5 | exact mo_w_7 | exact mo_w_8 | assumption)); all_goals rfl)
          refine ev_aload_n d_Mo_read0_55 rfl rfl ?_
          refine ev_iload_n d_Mo_read0_56 rfl rfl ?_
          refine em_putI (i := 5) hG d_Mo_read0_57 fo_Mo_134 rfl rfl (by decide) mv_5 (fun G hG => ?_)
          refine ev_aload_n d_Mo_read0_60 rfl rfl ?_
          refine ev_callV0 d_Mo_read0_61 ck_Mo_next ml_Mo_146 im_Mo_next se_Mo_next rfl hG.1 (c_Mo_next (e := e) (p := b) hG (fun i hi => hk1 i (by omega)) (by (repeat (first | apply va_up_t (h := by decide) | apply mo_w_t (h5 := by decide) (h7 := by decide) (h8 := by decide) | exact va_up_s | exact mo_w_5 | exact mo_w_7 | exact mo_w_8 | assumption)); all_goals rfl) (by (repeat (first | apply va_up_t (h := by decide) | apply mo_w_t (h5 := by decide) (h7 := by decide) (h8 := by decide) | exact va_up_s | exact mo_w_5 | exact mo_w_7 | exact mo_w_8 | assumption)); all_goals rfl) hbe (by omega)) (by omega) (Nat.le_of_ble_eq_true rfl) (by omega) (by omega) ?_
          rintro _ G ⟨rfl, hG⟩
          refine ev_if_eq 77 d_Mo_read0_64 (by decide) (fun hx => ?_) (fun hx => ?_)
          · have hx : ¬ wx sg b e 0 := cI_0 hx
            rw [if_neg (fun y => hx (c0.mp y))]
            exact next c z _ _ _ _ G (by omega) hzo mh mf hi6 hG
          · have hx : wx sg b e 0 := cI_1 hx
            rw [if_pos (c0.mpr hx)]
            refine ev_aload_n d_Mo_read0_67 rfl rfl ?_
            refine ev_iload_n d_Mo_read0_68 rfl rfl ?_
            refine ev_callV1 d_Mo_read0_69 ck_Mo_line ml_Mo_226 im_Mo_line se_Mo_line rfl hG.1 (c_Mo_line (s := b) (e := e) (n := k + 1) hk1 hzo mh hi6 hbe hen hn hcb hx mo_w_5 mo_w_7 mo_w_8 hG) (by omega) (Nat.le_of_ble_eq_true rfl) (by omega) (by omega) ?_
            rintro _ G ⟨I2, J2, M2, W2, rfl, hG, hf2, hy⟩
            cases hl : pz_line sg b e (k + 1) z with
            | none =>
              refine ev_if_ne 77 d_Mo_read0_72 (by decide) (fun q => absurd (cI_f (fun y => y rfl)) q) (fun _ => ?_)
              refine ev_iload_n d_Mo_read0_75 rfl rfl ?_
              exact ev_iret d_Mo_read0_76 rfl ⟨_, _, _, _, rfl, by show k + 1 ≤ n + 2; omega, hG, mf.mp hf2, by show 0 < k + 1; omega⟩
            | some z' =>
              refine ev_if_ne 77 d_Mo_read0_72 (by decide) (fun _ => ?_) (fun q => absurd (fun w => by cases w) (cI_0 q))
              obtain ⟨c', m2, hc'⟩ := hy z' hl
              exact next c' z' _ _ _ _ G hc' (pz_line_ok hzo hl) m2 (mf.mp hf2) ((hf2.1 6 (by omega)).trans hi6) hG
        have inner : ∀ (m j : Nat) (G : pm_G), j + m = n → b ≤ j → (∀ p, b ≤ p → p < j → ¬ sg p = 10) → mo_at G0 a A (va_up I1 6 (nI j)) J1 M1 W1 G → ev_W l X m_Mo_read0 6 0 0 (r0_Q G0 a A sg n I J M (pz_rd sg n (fu + 1) k b z)) 0 0 17 [(0, .ref a), (1, .int (nI (k + 1))), (2, .int (nI b))] [] G := by
          intro m
          induction m with
          | zero =>
            intro j G hj hbj hno hG
            refine ev_aload_n d_Mo_read0_17 rfl rfl ?_
            refine em_getI (i := 6) hG d_Mo_read0_18 fo_Mo_137 rfl (by (repeat (first | apply va_up_t (h := by decide) | apply mo_w_t (h5 := by decide) (h7 := by decide) (h8 := by decide) | exact va_up_s | exact mo_w_5 | exact mo_w_7 | exact mo_w_8 | assumption)); all_goals rfl) ?_
            refine ev_aload_n d_Mo_read0_21 rfl rfl ?_
            refine em_getI (i := 3) hG d_Mo_read0_22 fo_Mo_223 rfl (by (repeat (first | apply va_up_t (h := by decide) | apply mo_w_t (h5 := by decide) (h7 := by decide) (h8 := by decide) | exact va_up_s | exact mo_w_5 | exact mo_w_7 | exact mo_w_8 | assumption)); all_goals rfl) ?_
            refine ev_icmp_ge 55 d_Mo_read0_25 (by decide) (fun hc1 => ?_) (fun hc1 => ?_)
            · rw [show j = n by omega] at hG hno
              refine line n G (by omega) (Nat.le_refl _) ?_ hG
              rw [l_en_no (fun p q1 q2 => hno p q1 (by omega))]
              omega
            · exact absurd (nI_le (by omega) (by omega)) hc1
          | succ m ih2 =>
            intro j G hj hbj hno hG
            have hkj := (hk1 j (by omega)).1
            have hkb2 := (hk1 j (by omega)).2
            refine ev_aload_n d_Mo_read0_17 rfl rfl ?_
            refine em_getI (i := 6) hG d_Mo_read0_18 fo_Mo_137 rfl (by (repeat (first | apply va_up_t (h := by decide) | apply mo_w_t (h5 := by decide) (h7 := by decide) (h8 := by decide) | exact va_up_s | exact mo_w_5 | exact mo_w_7 | exact mo_w_8 | assumption)); all_goals rfl) ?_
            refine ev_aload_n d_Mo_read0_21 rfl rfl ?_
            refine em_getI (i := 3) hG d_Mo_read0_22 fo_Mo_223 rfl (by (repeat (first | apply va_up_t (h := by decide) | apply mo_w_t (h5 := by decide) (h7 := by decide) (h8 := by decide) | exact va_up_s | exact mo_w_5 | exact mo_w_7 | exact mo_w_8 | assumption)); all_goals rfl) ?_
            refine ev_icmp_ge 55 d_Mo_read0_25 (by decide) (fun hc1 => ?_) (fun hc1 => ?_)
            · exact absurd hc1 (nI_ge (by omega) (by omega))
            · refine ev_aload_n d_Mo_read0_28 rfl rfl ?_
              refine em_getA (i := 4) hG d_Mo_read0_29 fo_Mo_13 rfl ?_
              refine ev_aload_n d_Mo_read0_32 rfl rfl ?_
              refine em_getI (i := 6) hG d_Mo_read0_33 fo_Mo_137 rfl (by (repeat (first | apply va_up_t (h := by decide) | apply mo_w_t (h5 := by decide) (h7 := by decide) (h8 := by decide) | exact va_up_s | exact mo_w_5 | exact mo_w_7 | exact mo_w_8 | assumption)); all_goals rfl) ?_
              refine em_iald (i := 4) (N := 4000) hG d_Mo_read0_36 rfl rfl (by decide) (by omega) (by (repeat (first | apply va_up_mt (h := by decide) | apply va_up_ms | apply pk_ut (h := by omega) | apply pk_uLt (h := by omega) | exact pk_us | exact pk_uLs | assumption)); all_goals rfl) ?_
              refine ev_bipush (v := 10) d_Mo_read0_37 (by decide) ?_
              refine ev_icmp_eq 55 d_Mo_read0_39 (by decide) (fun hc2 => ?_) (fun hc2 => ?_)
              · have hc2 : sg j = 10 := (nI_eq (by omega) (b := 10) (by omega)).mp hc2
                exact line j G hbj (by omega) (l_en_lf hbj (by omega) hno hc2) hG
              · have hc2 : ¬ sg j = 10 := fun q => hc2 (by rw [q]; rfl)
                refine ev_aload_n d_Mo_read0_42 rfl rfl ?_
                refine ev_dup d_Mo_read0_43 rfl ?_
                refine em_getI (i := 6) hG d_Mo_read0_44 fo_Mo_137 rfl (by (repeat (first | apply va_up_t (h := by decide) | apply mo_w_t (h5 := by decide) (h7 := by decide) (h8 := by decide) | exact va_up_s | exact mo_w_5 | exact mo_w_7 | exact mo_w_8 | assumption)); all_goals rfl) ?_
                refine ev_iconst (v := 1) d_Mo_read0_47 (by decide) ?_
                refine ev_iadd d_Mo_read0_48 ?_
                refine em_putI (i := 6) hG d_Mo_read0_49 fo_Mo_137 rfl rfl (by decide) mv_6 (fun G hG => ?_)
                refine ev_goto 17 d_Mo_read0_52 (by decide) ?_
                rw [nI_1, va_up2] at hG
                refine ih2 (j + 1) G (by omega) (by omega) (fun p q1 q2 => ?_) hG
                by_cases y : p = j
                · rw [y]; exact hc2
                · exact hno p q1 (by omega)
        refine ev_iload_n d_Mo_read0_4 rfl rfl ?_
        refine ev_aload_n d_Mo_read0_5 rfl rfl ?_
        refine em_getI (i := 3) hG d_Mo_read0_6 fo_Mo_223 rfl (by (repeat (first | apply va_up_t (h := by decide) | apply mo_w_t (h5 := by decide) (h7 := by decide) (h8 := by decide) | exact va_up_s | exact mo_w_5 | exact mo_w_7 | exact mo_w_8 | assumption)); all_goals rfl) ?_
        refine ev_icmp_ge 90 d_Mo_read0_9 (by decide) (fun hc1 => ?_) (fun hc1 => ?_)
        · exact absurd hc1 (nI_ge (by omega) (by omega))
        · refine ev_aload_n d_Mo_read0_12 rfl rfl ?_
          refine ev_iload_n d_Mo_read0_13 rfl rfl ?_
          refine em_putI (i := 6) hG d_Mo_read0_14 fo_Mo_137 rfl rfl (by decide) mv_6 (fun G hG => ?_)
          exact inner (n - b) b G (by omega) (Nat.le_refl _) (fun p q1 q2 => by omega) hG
      · have ep : pz_rd sg n (fu + 1) k b z = if 0 < zDp z then (k + 1, none) else (0, some z) := by rw [pz_rd, if_neg hbn]
        have snb := hz.sn
        rw [ep]
        refine ev_iload_n d_Mo_read0_4 rfl rfl ?_
        refine ev_aload_n d_Mo_read0_5 rfl rfl ?_
        refine em_getI (i := 3) hG d_Mo_read0_6 fo_Mo_223 rfl (by (repeat (first | apply va_up_t (h := by decide) | apply mo_w_t (h5 := by decide) (h7 := by decide) (h8 := by decide) | exact va_up_s | exact mo_w_5 | exact mo_w_7 | exact mo_w_8 | assumption)); all_goals rfl) ?_
        refine ev_icmp_ge 90 d_Mo_read0_9 (by decide) (fun hc1 => ?_) (fun hc1 => ?_)
        · refine ev_aload_n d_Mo_read0_90 rfl rfl ?_
          refine em_getA (i := 17) hG d_Mo_read0_91 fo_Mo_28 rfl ?_
          refine ev_aload_n d_Mo_read0_94 rfl rfl ?_
          refine em_getI (i := 14) hG d_Mo_read0_95 fo_Mo_171 rfl (by (repeat (first | apply va_up_t (h := by decide) | apply mo_w_t (h5 := by decide) (h7 := by decide) (h8 := by decide) | exact va_up_s | exact mo_w_5 | exact mo_w_7 | exact mo_w_8 | assumption)); all_goals rfl) ?_
          refine ev_iconst (v := 1) d_Mo_read0_98 (by decide) ?_
          refine ev_iadd d_Mo_read0_99 ?_
          rw [nI_1]
          refine ev_aload_n d_Mo_read0_100 rfl rfl ?_
          refine em_getI (i := 23) hG d_Mo_read0_101 fo_Mo_174 rfl (by (repeat (first | apply va_up_t (h := by decide) | apply mo_w_t (h5 := by decide) (h7 := by decide) (h8 := by decide) | exact va_up_s | exact mo_w_5 | exact mo_w_7 | exact mo_w_8 | assumption)); all_goals rfl) ?_
          refine em_iast (i := 17) (N := 14) hG d_Mo_read0_104 rfl rfl (by decide) (by omega) (fun G hG => ?_)
          refine ev_aload_n d_Mo_read0_105 rfl rfl ?_
          refine em_getI (i := 36) hG d_Mo_read0_106 fo_Mo_190 rfl (by (repeat (first | apply va_up_t (h := by decide) | apply mo_w_t (h5 := by decide) (h7 := by decide) (h8 := by decide) | exact va_up_s | exact mo_w_5 | exact mo_w_7 | exact mo_w_8 | assumption)); all_goals rfl) ?_
          refine ev_if_le 116 d_Mo_read0_109 (by decide) (fun hd => ?_) (fun hd => ?_)
          · have d0 : ¬ 0 < zDp z := fun q => absurd hd (nI_nle q (by omega))
            rw [if_neg d0]
            refine ev_iconst (v := 0) d_Mo_read0_116 (by decide) ?_
            refine ev_iret d_Mo_read0_117 rfl ⟨_, _, _, _, rfl, by show 0 ≤ n + 2; omega, hG, hf.m (by decide), rfl, by omega, hzo, (congrFun va_up_s _).trans pk_us, c, by omega, p1, p2, p3, p4, p5, p6, p7, fun i hi => ⟨?_, (p8 i hi).2⟩, p9, p10, p11, p12⟩
            exact (congrFun va_up_s _).trans ((pk_un (by omega)).trans (p8 i hi).1)
          · have d0 : 0 < zDp z := by
              rcases Nat.eq_zero_or_pos (zDp z) with q | q
              · rw [q] at hd; exact absurd (by decide) hd
              · exact q
            rw [if_pos d0]
            refine ev_iload_n d_Mo_read0_112 rfl rfl ?_
            refine ev_goto 117 d_Mo_read0_113 (by decide) ?_
            exact ev_iret d_Mo_read0_117 rfl ⟨_, _, _, _, rfl, by show k + 1 ≤ n + 2; omega, hG, hf.m (by decide), by show 0 < k + 1; omega⟩
        · exact absurd (nI_le (by omega) (by omega)) hc1
  refine ev_iconst (v := 1) d_Mo_read0_0 (by decide) ?_
  refine ev_istore_n d_Mo_read0_1 rfl (by decide) ?_
  refine ev_iconst (v := 0) d_Mo_read0_2 (by decide) ?_
  refine ev_istore_n d_Mo_read0_3 rfl (by decide) ?_
  exact loop (n + 1) 0 0 0 z I J M W G (by omega) (by omega) (by omega) (by omega) hzo h mq_fr.rf hG
/-- nothing is read -/
def pz_0 : pz := ((0, fun _ => 0), (0, (fun _ => 0), (fun _ => 0), (fun _ => none), (fun _ => 0)), (0, (fun _ _ => 0), (fun _ => 0), (fun _ => 0), (fun _ _ => 0)), (0, fun _ => 0))
theorem pz_0_ok : pz_ok pz_0 := by
  refine ⟨⟨by decide, fun i hi => absurd hi (Nat.not_lt_zero _), by decide, fun i hi => absurd hi (Nat.not_lt_zero _), fun _ => ⟨rfl, rfl⟩, fun i hi => absurd hi (Nat.not_lt_zero _), fun i hi => absurd hi (Nat.not_lt_zero _), fun hi => absurd hi (Nat.not_lt_zero _), by decide, fun j hj => absurd hj (Nat.not_lt_zero _)⟩, fun _ => 0, fun i hi => absurd hi (Nat.not_lt_zero _), fun i hi => absurd hi (Nat.not_lt_zero _), fun i hi => absurd hi (Nat.not_lt_zero _), fun i hi => absurd hi (Nat.not_lt_zero _), fun i hi => absurd hi (Nat.not_lt_zero _), fun i j hi => absurd hi (Nat.not_lt_zero _), fun j k _ hk => absurd hk (Nat.not_lt_zero _), fun j hj => absurd hj (Nat.not_lt_zero _), fun i hi => absurd hi (Nat.not_lt_zero _), fun i x hi => absurd hi (Nat.not_lt_zero _)⟩
def mrd_Q (G0 : pm_G) (a : Nat) (A : Nat → Nat) (sg : Nat → Nat) (n : Nat) (J : Nat → Int64) (res : Nat × Option pz) (r : Option Value) (G' : pm_G) : Prop :=
  ∃ (I' : Nat → Int32) (J' : Nat → Int64) (M' : Nat → Nat → Int32) (W' : Nat → Nat → Int64), mo_at G0 a A I' J' M' W' G' ∧ I' 1 = 0 ∧ I' 10 = nI res.1 ∧ res.1 ≤ n + 2 ∧ I' 38 = 0 ∧ I' 44 = 0 ∧ (∀ i, i ≠ 9 → J' i = J i) ∧ (∀ j, j < 9 → M' 42 j = 0) ∧ (match res.2 with
    | none => r = some (.int 0) ∧ 0 < res.1 ∧ I' 0 = 1 ∧ I' 11 = 0 ∧ I' 14 = 0 ∧ I' 23 = 0
    | some z' => r = some (.int (nI (zSn z'))) ∧ res.1 = 0 ∧ I' 0 = 0 ∧ zDp z' = 0 ∧ pz_ok z' ∧ M' 17 (zTn z' + 1) = nI (zSn z') ∧ ∃ c, c ≤ 2000 ∧ mp_ok sg n c z' I' M' W')
set_option maxHeartbeats 1000000 in
theorem c_Mo_read (htx : ∀ k, k < n → M 2 k = nI (sg k) ∧ sg k < 128) (hn : n ≤ 4000) (h1 : I 1 = nI n) (hG : mo_at G0 a A I J M W G) : cn_M l X m_Mo_read 7 0 0 [.ref a] G (mrd_Q G0 a A sg n J (pz_rd sg n (n + 1) 0 0 pz_0)) := by
  refine cn_in rfl (Nat.le_of_ble_eq_true rfl) ?_
  -- behind the lines
  have wrong : ∀ (I1 : Nat → Int32) (J1 : Nat → Int64) (M1 : Nat → Nat → Int32) (W1 : Nat → Nat → Int64) (y : Int32) (G : pm_G) (res : Nat × Option pz), pz_rd sg n (n + 1) 0 0 pz_0 = res → y = nI res.1 → res.1 ≤ n + 2 → I1 1 = 0 → I1 38 = 0 → I1 44 = 0 → (∀ i, i ≠ 9 → J1 i = J i) → (∀ j, j < 9 → M1 42 j = 0) → (match res.2 with
      | none => 0 < res.1
      | some z' => res.1 = 0 ∧ zDp z' = 0 ∧ pz_ok z' ∧ M1 17 (zTn z' + 1) = nI (zSn z') ∧ ∃ c, c ≤ 2000 ∧ mp_ok sg n c z' I1 M1 W1) → mo_at G0 a A I1 J1 M1 W1 G → ev_W l X m_Mo_read 7 0 0 (mrd_Q G0 a A sg n J (pz_rd sg n (n + 1) 0 0 pz_0)) 0 0 102 [(0, .ref a), (1, .int (nI 9))] [.int y, .ref a] G := by
    intro I1 J1 M1 W1 y G res hres hy hr2 i1 i38 i44 hJ h42 hm hG
    subst hy
    rw [hres]
    refine em_putI (i := 10) hG d_Mo_read_102 fo_Mo_238 rfl rfl (by decide) mv_10 (fun G hG => ?_)
    refine ev_aload_n d_Mo_read_105 rfl rfl ?_
    refine ev_aload_n d_Mo_read_106 rfl rfl ?_
    refine em_getI (i := 10) hG d_Mo_read_107 fo_Mo_238 rfl (by (repeat (first | apply va_up_t (h := by decide) | apply mo_w_t (h5 := by decide) (h7 := by decide) (h8 := by decide) | exact va_up_s | exact mo_w_5 | exact mo_w_7 | exact mo_w_8 | assumption)); all_goals rfl) ?_
    obtain ⟨w, o⟩ := res
    cases o with
    | none =>
      have hm : 0 < w := hm
      have hr2 : w ≤ n + 2 := hr2
      refine ev_if_le 117 d_Mo_read_110 (by decide) (fun q => absurd q (nI_nle hm (by omega))) (fun _ => ?_)
      refine ev_iconst (v := 1) d_Mo_read_113 (by decide) ?_
      refine ev_goto 118 d_Mo_read_114 (by decide) ?_
      refine em_putI (i := 0) hG d_Mo_read_118 fo_Mo_127 rfl rfl (by decide) mv_0 (fun G hG => ?_)
      refine ev_aload_n d_Mo_read_121 rfl rfl ?_
      refine em_getI (i := 0) hG d_Mo_read_122 fo_Mo_127 rfl (by (repeat (first | apply va_up_t (h := by decide) | apply mo_w_t (h5 := by decide) (h7 := by decide) (h8 := by decide) | exact va_up_s | exact mo_w_5 | exact mo_w_7 | exact mo_w_8 | assumption)); all_goals rfl) ?_
      refine ev_if_ne 180 d_Mo_read_125 (by decide) (fun _ => ?_) (fun q => absurd q (by decide))
      refine ev_aload_n d_Mo_read_180 rfl rfl ?_
      refine ev_iconst (v := 0) d_Mo_read_181 (by decide) ?_
      refine em_putI (i := 11) hG d_Mo_read_182 fo_Mo_157 rfl rfl (by decide) mv_11 (fun G hG => ?_)
      refine ev_aload_n d_Mo_read_185 rfl rfl ?_
      refine ev_iconst (v := 0) d_Mo_read_186 (by decide) ?_
      refine em_putI (i := 14) hG d_Mo_read_187 fo_Mo_171 rfl rfl (by decide) mv_14 (fun G hG => ?_)
      refine ev_aload_n d_Mo_read_190 rfl rfl ?_
      refine ev_iconst (v := 0) d_Mo_read_191 (by decide) ?_
      refine em_putI (i := 23) hG d_Mo_read_192 fo_Mo_174 rfl rfl (by decide) mv_23 (fun G hG => ?_)
      refine ev_iconst (v := 0) d_Mo_read_195 (by decide) ?_
      exact ev_iret d_Mo_read_196 rfl ⟨_, _, _, _, hG, (by (repeat (first | apply va_up_t (h := by decide) | apply mo_w_t (h5 := by decide) (h7 := by decide) (h8 := by decide) | exact va_up_s | exact mo_w_5 | exact mo_w_7 | exact mo_w_8 | assumption)); all_goals rfl), (by (repeat (first | apply va_up_t (h := by decide) | apply mo_w_t (h5 := by decide) (h7 := by decide) (h8 := by decide) | exact va_up_s | exact mo_w_5 | exact mo_w_7 | exact mo_w_8 | assumption)); all_goals rfl), hr2, (by (repeat (first | apply va_up_t (h := by decide) | apply mo_w_t (h5 := by decide) (h7 := by decide) (h8 := by decide) | exact va_up_s | exact mo_w_5 | exact mo_w_7 | exact mo_w_8 | assumption)); all_goals rfl), (by (repeat (first | apply va_up_t (h := by decide) | apply mo_w_t (h5 := by decide) (h7 := by decide) (h8 := by decide) | exact va_up_s | exact mo_w_5 | exact mo_w_7 | exact mo_w_8 | assumption)); all_goals rfl), hJ, h42, rfl, hm, (by (repeat (first | apply va_up_t (h := by decide) | apply mo_w_t (h5 := by decide) (h7 := by decide) (h8 := by decide) | exact va_up_s | exact mo_w_5 | exact mo_w_7 | exact mo_w_8 | assumption)); all_goals rfl), (by (repeat (first | apply va_up_t (h := by decide) | apply mo_w_t (h5 := by decide) (h7 := by decide) (h8 := by decide) | exact va_up_s | exact mo_w_5 | exact mo_w_7 | exact mo_w_8 | assumption)); all_goals rfl), (by (repeat (first | apply va_up_t (h := by decide) | apply mo_w_t (h5 := by decide) (h7 := by decide) (h8 := by decide) | exact va_up_s | exact mo_w_5 | exact mo_w_7 | exact mo_w_8 | assumption)); all_goals rfl), (by (repeat (first | apply va_up_t (h := by decide) | apply mo_w_t (h5 := by decide) (h7 := by decide) (h8 := by decide) | exact va_up_s | exact mo_w_5 | exact mo_w_7 | exact mo_w_8 | assumption)); all_goals rfl)⟩
    | some z' =>
      obtain ⟨m1, m2, m3, m4, c, mc, m5⟩ := hm
      have m1 : w = 0 := m1
      subst m1
      refine ev_if_le 117 d_Mo_read_110 (by decide) (fun _ => ?_) (fun q => absurd (show (nI 0 : Int32) ≤ 0 by decide) q)
      refine ev_iconst (v := 0) d_Mo_read_117 (by decide) ?_
      refine em_putI (i := 0) hG d_Mo_read_118 fo_Mo_127 rfl rfl (by decide) mv_0 (fun G hG => ?_)
      refine ev_aload_n d_Mo_read_121 rfl rfl ?_
      refine em_getI (i := 0) hG d_Mo_read_122 fo_Mo_127 rfl (by (repeat (first | apply va_up_t (h := by decide) | apply mo_w_t (h5 := by decide) (h7 := by decide) (h8 := by decide) | exact va_up_s | exact mo_w_5 | exact mo_w_7 | exact mo_w_8 | assumption)); all_goals rfl) ?_
      refine ev_if_ne 180 d_Mo_read_125 (by decide) (fun q => absurd rfl q) (fun _ => ?_)
      obtain ⟨p1, p2, p3, p4, p5, p6, p7, p8, pr⟩ := id m5
      have t12 := m3.1.2.2.1
      have q14 : va_up (va_up I1 10 (nI 0)) 0 0 14 = nI (zTn z') := (by (repeat (first | apply va_up_t (h := by decide) | apply mo_w_t (h5 := by decide) (h7 := by decide) (h8 := by decide) | exact va_up_s | exact mo_w_5 | exact mo_w_7 | exact mo_w_8 | assumption)); all_goals rfl)
      have q23 : va_up (va_up I1 10 (nI 0)) 0 0 23 = nI (zSn z') := (by (repeat (first | apply va_up_t (h := by decide) | apply mo_w_t (h5 := by decide) (h7 := by decide) (h8 := by decide) | exact va_up_s | exact mo_w_5 | exact mo_w_7 | exact mo_w_8 | assumption)); all_goals rfl)
      have lp : ∀ (m t : Nat) (G : pm_G), t + m = zTn z' → mo_at G0 a A (va_up (va_up I1 10 (nI 0)) 0 0) J1 M1 W1 G → ev_W l X m_Mo_read 7 0 0 (mrd_Q G0 a A sg n J (0, some z')) 0 0 130 [(0, .ref a), (1, .int (nI (t + 1)))] [] G := by
        intro m
        induction m with
        | zero =>
          intro t G ht hG
          refine ev_iload_n d_Mo_read_130 rfl rfl ?_
          refine ev_aload_n d_Mo_read_131 rfl rfl ?_
          refine em_getI (i := 14) hG d_Mo_read_132 fo_Mo_171 rfl (by (repeat (first | apply va_up_t (h := by decide) | apply mo_w_t (h5 := by decide) (h7 := by decide) (h8 := by decide) | exact va_up_s | exact mo_w_5 | exact mo_w_7 | exact mo_w_8 | assumption)); all_goals rfl) ?_
          refine ev_icmp_gt 175 d_Mo_read_135 (by decide) (fun hc => ?_) (fun hc => ?_)
          · refine ev_aload_n d_Mo_read_175 rfl rfl ?_
            refine em_getI (i := 23) hG d_Mo_read_176 fo_Mo_174 rfl (by (repeat (first | apply va_up_t (h := by decide) | apply mo_w_t (h5 := by decide) (h7 := by decide) (h8 := by decide) | exact va_up_s | exact mo_w_5 | exact mo_w_7 | exact mo_w_8 | assumption)); all_goals rfl) ?_
            exact ev_iret d_Mo_read_179 rfl ⟨_, _, _, _, hG, (by (repeat (first | apply va_up_t (h := by decide) | apply mo_w_t (h5 := by decide) (h7 := by decide) (h8 := by decide) | exact va_up_s | exact mo_w_5 | exact mo_w_7 | exact mo_w_8 | assumption)); all_goals rfl), (by (repeat (first | apply va_up_t (h := by decide) | apply mo_w_t (h5 := by decide) (h7 := by decide) (h8 := by decide) | exact va_up_s | exact mo_w_5 | exact mo_w_7 | exact mo_w_8 | assumption)); all_goals rfl), by show 0 ≤ n + 2; omega, (by (repeat (first | apply va_up_t (h := by decide) | apply mo_w_t (h5 := by decide) (h7 := by decide) (h8 := by decide) | exact va_up_s | exact mo_w_5 | exact mo_w_7 | exact mo_w_8 | assumption)); all_goals rfl), (by (repeat (first | apply va_up_t (h := by decide) | apply mo_w_t (h5 := by decide) (h7 := by decide) (h8 := by decide) | exact va_up_s | exact mo_w_5 | exact mo_w_7 | exact mo_w_8 | assumption)); all_goals rfl), hJ, h42, rfl, rfl, (by (repeat (first | apply va_up_t (h := by decide) | apply mo_w_t (h5 := by decide) (h7 := by decide) (h8 := by decide) | exact va_up_s | exact mo_w_5 | exact mo_w_7 | exact mo_w_8 | assumption)); all_goals rfl), m2, m3, m4, c, mc, m5.ci (fun i hi => by rw [va_up_n (by omega), va_up_n (by omega)])⟩
          · exact absurd (nI_lt (by omega) (by omega)) hc
        | succ m ih =>
          intro t G ht hG
          refine ev_iload_n d_Mo_read_130 rfl rfl ?_
          refine ev_aload_n d_Mo_read_131 rfl rfl ?_
          refine em_getI (i := 14) hG d_Mo_read_132 fo_Mo_171 rfl (by (repeat (first | apply va_up_t (h := by decide) | apply mo_w_t (h5 := by decide) (h7 := by decide) (h8 := by decide) | exact va_up_s | exact mo_w_5 | exact mo_w_7 | exact mo_w_8 | assumption)); all_goals rfl) ?_
          refine ev_icmp_gt 175 d_Mo_read_135 (by decide) (fun hc => ?_) (fun hc => ?_)
          · exact absurd hc (nI_nlt (by omega) (by omega))
          · refine ev_aload_n d_Mo_read_138 rfl rfl ?_
            refine em_getA (i := 17) hG d_Mo_read_139 fo_Mo_28 rfl ?_
            refine ev_iload_n d_Mo_read_142 rfl rfl ?_
            refine ev_iconst (v := 1) d_Mo_read_143 (by decide) ?_
            refine ev_iadd d_Mo_read_144 ?_
            rw [nI_1]
            refine ev_iload_n d_Mo_read_145 rfl rfl ?_
            refine ev_aload_n d_Mo_read_146 rfl rfl ?_
            refine em_getI (i := 14) hG d_Mo_read_147 fo_Mo_171 rfl (by (repeat (first | apply va_up_t (h := by decide) | apply mo_w_t (h5 := by decide) (h7 := by decide) (h8 := by decide) | exact va_up_s | exact mo_w_5 | exact mo_w_7 | exact mo_w_8 | assumption)); all_goals rfl) ?_
            refine ev_icmp_ne 160 d_Mo_read_150 (by decide) (fun hd => ?_) (fun hd => ?_)
            · have hd : ¬ t + 1 = zTn z' := fun q => hd (by rw [q])
              have h17 := (p8 (t + 1) (by omega)).1
              refine ev_aload_n d_Mo_read_160 rfl rfl ?_
              refine em_getA (i := 17) hG d_Mo_read_161 fo_Mo_28 rfl ?_
              refine ev_iload_n d_Mo_read_164 rfl rfl ?_
              refine ev_iconst (v := 1) d_Mo_read_165 (by decide) ?_
              refine ev_iadd d_Mo_read_166 ?_
              rw [nI_1]
              refine em_iald (i := 17) (N := 14) hG d_Mo_read_167 rfl rfl (by decide) (by omega) (by (repeat (first | apply va_up_mt (h := by decide) | apply va_up_ms | apply pk_ut (h := by omega) | apply pk_uLt (h := by omega) | exact pk_us | exact pk_uLs | assumption)); all_goals rfl) ?_
              refine em_iast (i := 17) (N := 14) hG d_Mo_read_168 rfl rfl (by decide) (by omega) (fun G hG => ?_)
              refine ev_iinc d_Mo_read_169 rfl (by first | exact nI_1 _ | rfl) (by decide) ?_
              refine ev_goto 130 d_Mo_read_172 (by decide) ?_
              rw [← h17, upd0, va_up0] at hG
              exact ih (t + 1) G (by omega) hG
            · have hd : t + 1 = zTn z' := (nI_eq (by omega) (by omega)).mp hd
              refine ev_aload_n d_Mo_read_153 rfl rfl ?_
              refine em_getI (i := 23) hG d_Mo_read_154 fo_Mo_174 rfl (by (repeat (first | apply va_up_t (h := by decide) | apply mo_w_t (h5 := by decide) (h7 := by decide) (h8 := by decide) | exact va_up_s | exact mo_w_5 | exact mo_w_7 | exact mo_w_8 | assumption)); all_goals rfl) ?_
              refine ev_goto 168 d_Mo_read_157 (by decide) ?_
              refine em_iast (i := 17) (N := 14) hG d_Mo_read_168 rfl rfl (by decide) (by omega) (fun G hG => ?_)
              refine ev_iinc d_Mo_read_169 rfl (by first | exact nI_1 _ | rfl) (by decide) ?_
              refine ev_goto 130 d_Mo_read_172 (by decide) ?_
              rw [← m4, ← hd, upd0, va_up0] at hG
              exact ih (t + 1) G (by omega) hG
      refine ev_iconst (v := 1) d_Mo_read_128 (by decide) ?_
      refine ev_istore_n d_Mo_read_129 rfl (by decide) ?_
      exact lp (zTn z') 0 G (by omega) hG
  have out : ∀ (m j : Nat) (f g : Nat → Int32) (I1 : Nat → Int32) (G : pm_G), j + m = 9 → (∀ k, k < n → f k = nI (sg k)) → (∀ k, k < j → g k = 0) → I1 1 = 0 → I1 3 = nI n → I1 11 = 0 → I1 14 = 0 → I1 23 = 0 → I1 34 = 0 → I1 36 = 0 → I1 38 = 0 → I1 44 = 0 → mo_at G0 a A I1 J (va_up (va_up M 4 f) 42 g) W G → ev_W l X m_Mo_read 7 0 0 (mrd_Q G0 a A sg n J (pz_rd sg n (n + 1) 0 0 pz_0)) 0 0 78 [(0, .ref a), (1, .int (nI j))] [] G := by
    intro m
    induction m with
    | zero =>
      intro j f g I1 G hj hf hg i1 i3 i11 i14 i23 i34 i36 i38 i44 hG
      have j9 : j = 9 := by omega
      subst j9
      refine ev_iload_n d_Mo_read_78 rfl rfl ?_
      refine ev_bipush (v := 9) d_Mo_read_79 (by decide) ?_
      refine ev_icmp_ge 97 d_Mo_read_81 (by decide) (fun _ => ?_) (fun q => absurd (by decide) q)
      have hk1 : mk_ok sg (va_up (va_up M 4 f) 42 g) n := fun k hk => ⟨(hf k hk : _), (htx k hk).2⟩
      have mp0 : mp_ok sg n 0 pz_0 I1 (va_up (va_up M 4 f) 42 g) W := ⟨i11, i14, i23, i36, i34, fun i hi => absurd hi (Nat.not_lt_zero _), fun i hi => absurd hi (Nat.not_lt_zero _), fun i hi => absurd hi (Nat.not_lt_zero _), fun i hi => absurd hi (Nat.not_lt_zero _), fun i hi => absurd hi (Nat.not_lt_zero _), fun i hi => absurd hi (Nat.not_lt_zero _), fun i hi => absurd hi (Nat.not_lt_zero _)⟩
      refine ev_aload_n d_Mo_read_97 rfl rfl ?_
      refine ev_aload_n d_Mo_read_98 rfl rfl ?_
      refine ev_callV0 d_Mo_read_99 ck_Mo_read0 ml_Mo_235 im_Mo_read0 se_Mo_read0 rfl hG.1 (c_Mo_read0 hk1 hn pz_0_ok mp0 i3 hG) (by omega) (Nat.le_of_ble_eq_true rfl) (by omega) (by omega) ?_
      rintro _ G ⟨I2, J2, M2, W2, rfl, hr2, hG, hq, hm⟩
      exact wrong I2 J2 M2 W2 _ G _ rfl rfl hr2 ((hq.1 1 (by omega)).trans i1) ((hq.1 38 (by omega)).trans i38) ((hq.1 44 (by omega)).trans i44) hq.2.1 (fun j hj => by rw [hq.2.2.2.2]; exact hg j hj) hm hG
    | succ m ih =>
      intro j f g I1 G hj hf hg i1 i3 i11 i14 i23 i34 i36 i38 i44 hG
      refine ev_iload_n d_Mo_read_78 rfl rfl ?_
      refine ev_bipush (v := 9) d_Mo_read_79 (by decide) ?_
      refine ev_icmp_ge 97 d_Mo_read_81 (by decide) (fun hc => ?_) (fun hc => ?_)
      · exact absurd hc (nI_ge (b := 9) (by omega) (by omega))
      · refine ev_aload_n d_Mo_read_84 rfl rfl ?_
        refine em_getA (i := 42) hG d_Mo_read_85 fo_Mo_93 rfl ?_
        refine ev_iload_n d_Mo_read_88 rfl rfl ?_
        refine ev_iconst (v := 0) d_Mo_read_89 (by decide) ?_
        refine em_zast (i := 42) (N := 9) hG d_Mo_read_90 rfl rfl (by decide) (by omega) (by first | assumption | exact cI_v | decide) (fun G hG => ?_)
        refine ev_iinc d_Mo_read_91 rfl (by first | exact nI_1 _ | rfl) (by decide) ?_
        refine ev_goto 78 d_Mo_read_94 (by decide) ?_
        rw [va_up2, va_up_s] at hG
        refine ih (j + 1) f _ I1 G (by omega) hf (fun k hk => ?_) i1 i3 i11 i14 i23 i34 i36 i38 i44 hG
        by_cases q : k = j
        · rw [q, pk_us]
        · rw [pk_un q]; exact hg k (by omega)
  have cp : ∀ (m j : Nat) (f : Nat → Int32) (G : pm_G), j + m = n → (∀ k, k < j → f k = nI (sg k)) → mo_at G0 a A (va_up (va_up I 3 (nI n)) 1 0) J (va_up M 4 f) W G → ev_W l X m_Mo_read 7 0 0 (mrd_Q G0 a A sg n J (pz_rd sg n (n + 1) 0 0 pz_0)) 0 0 15 [(0, .ref a), (1, .int (nI j))] [] G := by
    intro m
    induction m with
    | zero =>
      intro j f G hj hf hG
      have h4 : va_up M 4 f = va_up (va_up M 4 f) 42 (M 42) := by
        rw [show M 42 = va_up M 4 f 42 from rfl, va_up0]
      refine ev_iload_n d_Mo_read_15 rfl rfl ?_
      refine ev_aload_n d_Mo_read_16 rfl rfl ?_
      refine em_getI (i := 3) hG d_Mo_read_17 fo_Mo_223 rfl (by (repeat (first | apply va_up_t (h := by decide) | apply mo_w_t (h5 := by decide) (h7 := by decide) (h8 := by decide) | exact va_up_s | exact mo_w_5 | exact mo_w_7 | exact mo_w_8 | assumption)); all_goals rfl) ?_
      refine ev_icmp_ge 41 d_Mo_read_20 (by decide) (fun hc => ?_) (fun hc => ?_)
      · refine ev_aload_n d_Mo_read_41 rfl rfl ?_
        refine ev_iconst (v := 0) d_Mo_read_42 (by decide) ?_
        refine em_putI (i := 11) hG d_Mo_read_43 fo_Mo_157 rfl rfl (by decide) mv_11 (fun G hG => ?_)
        refine ev_aload_n d_Mo_read_46 rfl rfl ?_
        refine ev_iconst (v := 0) d_Mo_read_47 (by decide) ?_
        refine em_putI (i := 14) hG d_Mo_read_48 fo_Mo_171 rfl rfl (by decide) mv_14 (fun G hG => ?_)
        refine ev_aload_n d_Mo_read_51 rfl rfl ?_
        refine ev_iconst (v := 0) d_Mo_read_52 (by decide) ?_
        refine em_putI (i := 23) hG d_Mo_read_53 fo_Mo_174 rfl rfl (by decide) mv_23 (fun G hG => ?_)
        refine ev_aload_n d_Mo_read_56 rfl rfl ?_
        refine ev_iconst (v := 0) d_Mo_read_57 (by decide) ?_
        refine em_putI (i := 34) hG d_Mo_read_58 fo_Mo_220 rfl rfl (by decide) mv_34 (fun G hG => ?_)
        refine ev_aload_n d_Mo_read_61 rfl rfl ?_
        refine ev_iconst (v := 0) d_Mo_read_62 (by decide) ?_
        refine em_putI (i := 36) hG d_Mo_read_63 fo_Mo_190 rfl rfl (by decide) mv_36 (fun G hG => ?_)
        refine ev_aload_n d_Mo_read_66 rfl rfl ?_
        refine ev_iconst (v := 0) d_Mo_read_67 (by decide) ?_
        refine em_putI (i := 38) hG d_Mo_read_68 fo_Mo_229 rfl rfl (by decide) mv_38 (fun G hG => ?_)
        refine ev_aload_n d_Mo_read_71 rfl rfl ?_
        refine ev_iconst (v := 0) d_Mo_read_72 (by decide) ?_
        refine em_putI (i := 44) hG d_Mo_read_73 fo_Mo_232 rfl rfl (by decide) mv_44 (fun G hG => ?_)
        refine ev_iconst (v := 0) d_Mo_read_76 (by decide) ?_
        refine ev_istore_n d_Mo_read_77 rfl (by decide) ?_
        rw [h4] at hG
        exact out 9 0 f (M 42) _ G (by omega) (fun k hk => hf k (by omega)) (fun k hk => by omega) (by (repeat (first | apply va_up_t (h := by decide) | apply mo_w_t (h5 := by decide) (h7 := by decide) (h8 := by decide) | exact va_up_s | exact mo_w_5 | exact mo_w_7 | exact mo_w_8 | assumption)); all_goals rfl) (by (repeat (first | apply va_up_t (h := by decide) | apply mo_w_t (h5 := by decide) (h7 := by decide) (h8 := by decide) | exact va_up_s | exact mo_w_5 | exact mo_w_7 | exact mo_w_8 | assumption)); all_goals rfl) (by (repeat (first | apply va_up_t (h := by decide) | apply mo_w_t (h5 := by decide) (h7 := by decide) (h8 := by decide) | exact va_up_s | exact mo_w_5 | exact mo_w_7 | exact mo_w_8 | assumption)); all_goals rfl) (by (repeat (first | apply va_up_t (h := by decide) | apply mo_w_t (h5 := by decide) (h7 := by decide) (h8 := by decide) | exact va_up_s | exact mo_w_5 | exact mo_w_7 | exact mo_w_8 | assumption)); all_goals rfl) (by (repeat (first | apply va_up_t (h := by decide) | apply mo_w_t (h5 := by decide) (h7 := by decide) (h8 := by decide) | exact va_up_s | exact mo_w_5 | exact mo_w_7 | exact mo_w_8 | assumption)); all_goals rfl) (by (repeat (first | apply va_up_t (h := by decide) | apply mo_w_t (h5 := by decide) (h7 := by decide) (h8 := by decide) | exact va_up_s | exact mo_w_5 | exact mo_w_7 | exact mo_w_8 | assumption)); all_goals rfl) (by (repeat (first | apply va_up_t (h := by decide) | apply mo_w_t (h5 := by decide) (h7 := by decide) (h8 := by decide) | exact va_up_s | exact mo_w_5 | exact mo_w_7 | exact mo_w_8 | assumption)); all_goals rfl) (by (repeat (first | apply va_up_t (h := by decide) | apply mo_w_t (h5 := by decide) (h7 := by decide) (h8 := by decide) | exact va_up_s | exact mo_w_5 | exact mo_w_7 | exact mo_w_8 | assumption)); all_goals rfl) (by (repeat (first | apply va_up_t (h := by decide) | apply mo_w_t (h5 := by decide) (h7 := by decide) (h8 := by decide) | exact va_up_s | exact mo_w_5 | exact mo_w_7 | exact mo_w_8 | assumption)); all_goals rfl) hG
      · exact absurd (nI_le (by omega) (by omega)) hc
    | succ m ih =>
      intro j f G hj hf hG
      have htj := (htx j (by omega)).1
      refine ev_iload_n d_Mo_read_15 rfl rfl ?_
      refine ev_aload_n d_Mo_read_16 rfl rfl ?_
      refine em_getI (i := 3) hG d_Mo_read_17 fo_Mo_223 rfl (by (repeat (first | apply va_up_t (h := by decide) | apply mo_w_t (h5 := by decide) (h7 := by decide) (h8 := by decide) | exact va_up_s | exact mo_w_5 | exact mo_w_7 | exact mo_w_8 | assumption)); all_goals rfl) ?_
      refine ev_icmp_ge 41 d_Mo_read_20 (by decide) (fun hc => ?_) (fun hc => ?_)
      · exact absurd hc (nI_ge (by omega) (by omega))
      · refine ev_aload_n d_Mo_read_23 rfl rfl ?_
        refine em_getA (i := 4) hG d_Mo_read_24 fo_Mo_13 rfl ?_
        refine ev_iload_n d_Mo_read_27 rfl rfl ?_
        refine ev_aload_n d_Mo_read_28 rfl rfl ?_
        refine em_getA (i := 2) hG d_Mo_read_29 fo_Mo_7 rfl ?_
        refine ev_iload_n d_Mo_read_32 rfl rfl ?_
        refine em_iald (i := 2) (N := 4000) hG d_Mo_read_33 rfl rfl (by decide) (by omega) (by (repeat (first | apply va_up_mt (h := by decide) | apply va_up_ms | apply pk_ut (h := by omega) | apply pk_uLt (h := by omega) | exact pk_us | exact pk_uLs | assumption)); all_goals rfl) ?_
        refine em_iast (i := 4) (N := 4000) hG d_Mo_read_34 rfl rfl (by decide) (by omega) (fun G hG => ?_)
        refine ev_iinc d_Mo_read_35 rfl (by first | exact nI_1 _ | rfl) (by decide) ?_
        refine ev_goto 15 d_Mo_read_38 (by decide) ?_
        rw [va_up2, va_up_s] at hG
        refine ih (j + 1) _ G (by omega) (fun k hk => ?_) hG
        by_cases q : k = j
        · rw [q, pk_us]
        · rw [pk_un q]; exact hf k (by omega)
  refine ev_aload_n d_Mo_read_0 rfl rfl ?_
  refine ev_aload_n d_Mo_read_1 rfl rfl ?_
  refine em_getI (i := 1) hG d_Mo_read_2 fo_Mo_131 rfl (by (repeat (first | apply va_up_t (h := by decide) | apply mo_w_t (h5 := by decide) (h7 := by decide) (h8 := by decide) | exact va_up_s | exact mo_w_5 | exact mo_w_7 | exact mo_w_8 | assumption)); all_goals rfl) ?_
  refine em_putI (i := 3) hG d_Mo_read_5 fo_Mo_223 rfl rfl (by decide) mv_3 (fun G hG => ?_)
  refine ev_aload_n d_Mo_read_8 rfl rfl ?_
  refine ev_iconst (v := 0) d_Mo_read_9 (by decide) ?_
  refine em_putI (i := 1) hG d_Mo_read_10 fo_Mo_131 rfl rfl (by decide) mv_1 (fun G hG => ?_)
  refine ev_iconst (v := 0) d_Mo_read_13 (by decide) ?_
  refine ev_istore_n d_Mo_read_14 rfl (by decide) ?_
  refine cp n 0 (M 4) G (by omega) (fun k hk => by omega) ?_
  rw [va_up0]
  exact hG
end MZ
