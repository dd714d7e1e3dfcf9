/-! THE MODEL READS: line -/
theorem mp_ok.st {sg : Nat → Nat} {N c c' : Nat} {z : pz} {I I' : Nat → Int32} {M M' : Nat → Nat → Int32} {W W' : Nat → Nat → Int64} (h : mp_ok sg N c z I M W) (hM : sn_fr (zSn z) M M') (hW : sw_fr (zSn z) c W W') (hc : c ≤ c') (h18 : M' 18 = M 18) (i11 : I' 11 = I 11) (i14 : I' 14 = I 14) (i23 : I' 23 = I 23) (i36 : I' 36 = I 36) (i34 : I' 34 = nI c') : mp_ok sg N c' z I' M' W' := by
  obtain ⟨p1, p2, p3, p4, p5, p6, p7, p8, p9, p10, p11, p12⟩ := h
  refine ⟨i11.trans p1, i14.trans p2, i23.trans p3, i36.trans p4, i34, ?_, ?_, fun i hi => ?_, fun j hj => ?_, fun i hi hb => ?_, fun i hi => ?_, fun i hi => ms_fr (p12 i hi) hM hW (by omega) hc⟩
  · rw [hM.off (k := 12) (by decide) (by decide), hM.off (k := 13) (by decide) (by decide)]; exact p6
  · rw [hM.off (k := 15) (by decide) (by decide), hM.off (k := 16) (by decide) (by decide)]; exact p7
  · rw [hM.off (k := 17) (by decide) (by decide), h18, hM.off (k := 19) (by decide) (by decide)]; exact p8 i hi
  · rw [hM.off (k := 37) (by decide) (by decide)]; exact p9 j hj
  · exact (p10 i hi hb).imp_right (fun q => (hM.at (by decide) (by omega)).trans q)
  · exact (hM.at (by decide) (by omega)).trans (p11 i hi)
/-- a step more -/
theorem mp_push {sg : Nat → Nat} {s e n N c c' nl : Nat} {z z' : pz} {I I' I2 : Nat → Int32} {M M' M2 : Nat → Nat → Int32} {W W' : Nat → Nat → Int64} {g nf : Nat → Int32} (ht : 0 < zTn z) (h : mp_ok sg N c z I M W) (hM : sn_fr (zSn z) M M') (h33 : M 33 (zSn z) = 0) (hP : st_P sg s e n c z I I' M M' W W' (g, nl, nf, z') c')
    (hv : (z' = z ∧ ¬ bk_g g) ∨ (z' = pz_open z ∧ zDp z < 8 ∧ (g 0 = 6 ∨ g 0 = 7)) ∨ (z' = pz_open (pz_always z) ∧ zDp z = 0 ∧ zAl z (zTn z - 1) = none ∧ g 0 = 8))
    (hM2 : (bk_g g ∧ M2 = va_up M' 37 (upd (M' 37) (zDp z) (nI (zSn z))) ∧ I2 36 = nI (zDp z + 1)) ∨ (¬ bk_g g ∧ M2 = M' ∧ I2 36 = nI (zDp z))) (i11 : I2 11 = I' 11) (i14 : I2 14 = I' 14) (i34 : I2 34 = I' 34) (i23 : I2 23 = nI (zSn z + 1)) : mp_ok sg N c' (pz_push g nl nf z') I2 M2 W' := by
  obtain ⟨p1, p2, p3, p4, p5, p6, p7, p8, p9, p10, p11, p12⟩ := h
  obtain ⟨s11, s14, s23, s36, s34, hc, he, hms, hW, s31, s33, s18, s18b, hfe, hkk⟩ := hP
  replace hms : ms_ok M' W' c' (zSn z) g nl nf := hms
  replace s18 : g 0 ≠ 8 → M' 18 = M 18 := s18
  replace s18b : g 0 = 8 → M' 18 = upd (M 18) (zTn z) (nI (zSn z)) := s18b
  have q12 : ∀ i, i < zSn z + 1 → ms_ok M' W' c' i (va_up (zSd z) (zSn z) g i) (va_up (zNl z) (zSn z) nl i) (va_up (zNf z) (zSn z) nf i) := by
    intro i hi
    by_cases q : i = zSn z
    · rw [q, va_up_s, va_up_s, va_up_s]; exact hms
    · rw [va_up_n q, va_up_n q, va_up_n q]; exact ms_fr (p12 i (by omega)) hM hW q hc
  have q11 : ∀ i, i < zSn z + 1 → M' 33 i = 0 := by
    intro i hi
    rw [s33]
    by_cases q : i = zSn z
    · rw [q]; exact h33
    · exact p11 i (by omega)
  have q6 : nm_sl sg N (M' 12) (M' 13) (zVn z) (zVk z) := by rw [hM.off (k := 12) (by decide) (by decide), hM.off (k := 13) (by decide) (by decide)]; exact p6
  have q7 : nm_sl sg N (M' 15) (M' 16) (zTn z) (zTk z) := by rw [hM.off (k := 15) (by decide) (by decide), hM.off (k := 16) (by decide) (by decide)]; exact p7
  have q9 : ∀ j, j < zDp z → M' 37 j = nI (zOp z j) := by rw [hM.off (k := 37) (by decide) (by decide)]; exact p9
  have q17 : M' 17 = M 17 := hM.off (by decide) (by decide)
  have q19 : M' 19 = M 19 := hM.off (by decide) (by decide)
  have q10 : ∀ i, i < zSn z → bk_g (zSd z i) → (∃ j, j < zDp z ∧ zOp z j = i) ∨ M' 31 i = nI (zBh z i) := by rw [s31]; exact p10
  have r11 := i11.trans (s11.trans p1)
  have r14 := i14.trans (s14.trans p2)
  have r34 := i34.trans s34
  rcases hv with ⟨rfl, hb⟩ | ⟨rfl, hd, hb⟩ | ⟨rfl, hd, hal, hb⟩
  · obtain ⟨-, rfl, i36⟩ := hM2.resolve_left (fun q => hb q.1)
    have e18 := s18 (fun q => hb (bk_8 q))
    refine ⟨r11, r14, i23, i36, r34, q6, q7, fun i hi => by rw [q17, e18, q19]; exact p8 i hi, q9, fun i hi hb2 => ?_, q11, q12⟩
    replace hi : i < zSn z' + 1 := hi
    replace hb2 : bk_g (va_up (zSd z') (zSn z') g i) := hb2
    show (∃ j, j < zDp z' ∧ zOp z' j = i) ∨ M2 31 i = nI (va_up (zBh z') (zSn z') (zSn z' + 1) i)
    by_cases q : i = zSn z'
    · rw [q, va_up_s] at hb2; exact absurd hb2 hb
    · rw [va_up_n q] at hb2 ⊢; exact q10 i (by omega) hb2
  · have hbk : bk_g g := hb.elim Or.inl (fun q => Or.inr (Or.inl q))
    obtain ⟨-, rfl, i36⟩ := hM2.resolve_right (fun q => q.1 hbk)
    have e18 := s18 (fun q => by rcases hb with x | x <;> (rw [x] at q; exact absurd q (by decide)))
    refine ⟨r11, r14, i23, i36, r34, q6, q7, fun i hi => by rw [show va_up M' 37 (upd (M' 37) (zDp z) (nI (zSn z))) 17 = M 17 from q17, show va_up M' 37 (upd (M' 37) (zDp z) (nI (zSn z))) 18 = M 18 from e18, show va_up M' 37 (upd (M' 37) (zDp z) (nI (zSn z))) 19 = M 19 from q19]; exact p8 i hi, fun j hj => ?_, fun i hi hb2 => ?_, q11, q12⟩
    · replace hj : j < zDp z + 1 := hj
      show upd (M' 37) (zDp z) (nI (zSn z)) j = nI (va_up (zOp z) (zDp z) (zSn z) j)
      by_cases q : j = zDp z
      · rw [q, va_up_s, pk_us]
      · rw [va_up_n q, pk_un q]; exact q9 j (by omega)
    · replace hi : i < zSn z + 1 := hi
      replace hb2 : bk_g (va_up (zSd z) (zSn z) g i) := hb2
      show (∃ j, j < zDp z + 1 ∧ va_up (zOp z) (zDp z) (zSn z) j = i) ∨ M' 31 i = nI (va_up (zBh z) (zSn z) (zSn z + 1) i)
      by_cases q : i = zSn z
      · exact Or.inl ⟨zDp z, by omega, by rw [va_up_s, q]⟩
      · rw [va_up_n q] at hb2 ⊢
        rcases q10 i (by omega) hb2 with ⟨j, j1, j2⟩ | y
        · exact Or.inl ⟨j, by omega, by rw [va_up_n (by omega)]; exact j2⟩
        · exact Or.inr y
  · have hbk : bk_g g := bk_8 hb
    obtain ⟨-, rfl, i36⟩ := hM2.resolve_right (fun q => q.1 hbk)
    have e18 := s18b hb
    refine ⟨r11, r14, i23, i36, r34, q6, q7, fun i hi => ?_, fun j hj => ?_, fun i hi hb2 => ?_, q11, q12⟩
    · replace hi : i < zTn z := hi
      show M' 17 (i + 1) = nI (zFi z i) ∧ M' 18 (i + 1) = bhI ((va_up (zAl z) (zTn z - 1) (some (zSn z)) i).elim 0 (· + 1)) ∧ M' 19 (i + 1) = 0
      rw [q17, e18, q19]
      refine ⟨(p8 i hi).1, ?_, (p8 i hi).2.2⟩
      by_cases q : i = zTn z - 1
      · rw [q, show zTn z - 1 + 1 = zTn z by omega, pk_us, va_up_s]
        exact bhI_s.symm
      · rw [va_up_n q, pk_un (by omega)]; exact (p8 i hi).2.1
    · replace hj : j < zDp z + 1 := hj
      show upd (M' 37) (zDp z) (nI (zSn z)) j = nI (va_up (zOp z) (zDp z) (zSn z) j)
      by_cases q : j = zDp z
      · rw [q, va_up_s, pk_us]
      · rw [va_up_n q, pk_un q]; exact q9 j (by omega)
    · replace hi : i < zSn z + 1 := hi
      replace hb2 : bk_g (va_up (zSd z) (zSn z) g i) := hb2
      show (∃ j, j < zDp z + 1 ∧ va_up (zOp z) (zDp z) (zSn z) j = i) ∨ M' 31 i = nI (va_up (zBh z) (zSn z) (zSn z + 1) i)
      by_cases q : i = zSn z
      · exact Or.inl ⟨zDp z, by omega, by rw [va_up_s, q]⟩
      · rw [va_up_n q] at hb2 ⊢
        rcases q10 i (by omega) hb2 with ⟨j, j1, j2⟩ | y
        · exact Or.inl ⟨j, by omega, by rw [va_up_n (by omega)]; exact j2⟩
        · exact Or.inr y
theorem mkd_lt {k : Nat} (h1 : 1 ≤ k) (h2 : k ≤ 8) : mkd (nI k) < 5 ↔ ¬ bk_g (fun _ => nI k) := by
  have : k = 1 ∨ k = 2 ∨ k = 3 ∨ k = 4 ∨ k = 5 ∨ k = 6 ∨ k = 7 ∨ k = 8 := by omega
  unfold bk_g
  rcases this with rfl | rfl | rfl | rfl | rfl | rfl | rfl | rfl <;> decide
section ML
variable {l : Launch} {X : pm_X} {G G0 : pm_G} {a : Nat} {A : Nat → Nat} {I : Nat → Int32} {J : Nat → Int64} {M : Nat → Nat → Int32} {W : Nat → Nat → Int64} {sg : Nat → Nat} {s e n N c : Nat} {z : pz}
def mln_Q (G0 : pm_G) (a : Nat) (A : Nat → Nat) (sg : Nat → Nat) (s e n N : Nat) (z : pz) (I : Nat → Int32) (J : Nat → Int64) (M : Nat → Nat → Int32) (r : Option Value) (G' : pm_G) : Prop :=
  ∃ (I' : Nat → Int32) (J' : Nat → Int64) (M' : Nat → Nat → Int32) (W' : Nat → Nat → Int64), r = some (.int (cI (pz_line sg s e n z ≠ none))) ∧ mo_at G0 a A I' J' M' W' G' ∧ mp_fr I I' J J' M M' ∧ ∀ z', pz_line sg s e n z = some z' → ∃ c', mp_ok sg N c' z' I' M' W' ∧ 2 * c' ≤ e
set_option maxHeartbeats 1000000 in
theorem c_Mo_line (hk : mk_ok sg M N) (hzo : pz_ok z) (h : mp_ok sg N c z I M W) (h6 : I 6 = nI e) (hse : s ≤ e) (hen : e ≤ N) (hn : N ≤ 4000) (hc : 2 * c ≤ s) (hx0 : wx sg s e 0) (h5 : I 5 = nI (w_w sg s e 0).2) (h7 : I 7 = nI (w_w sg s e 0).1) (h8 : I 8 = nI (w_w sg s e 0).2) (hG : mo_at G0 a A I J M W G) : cn_M l X m_Mo_line 5 0 0 [.ref a, .int (nI n)] G (mln_Q G0 a A sg s e n N z I J M) := by
  obtain ⟨p1, p2, p3, p4, p5, p6, p7, p8, p9, p10, p11, p12⟩ := id h
  have hke := mk_le hk hen
  have hz := hzo.1
  obtain ⟨z1, z2, z3, z4, z5, z6, z7, z8, z9, z10⟩ := id hz
  have snb := hz.sn
  have a0 := (w_w_b (sg := sg) hse 0).2.1
  have b0 := (w_w_b (sg := sg) hse 0).2.2.1
  obtain ⟨b1, b2, b3, b4⟩ := w_w_b (sg := sg) hse 1
  have c0 := (wc_lt (sg := sg) hse (j := 0) (by omega)).mpr hx0
  have c1 := wc_lt (sg := sg) hse (j := 1) (by omega)
  have c2 := wc_lt (sg := sg) hse (j := 2) (by omega)
  refine cn_in rfl (Nat.le_of_ble_eq_true rfl) ?_
  refine ev_aload_n d_Mo_line_0 rfl rfl ?_
  refine ev_bipush (v := 110) d_Mo_line_1 (by decide) ?_
  refine ev_bipush (v := 97) d_Mo_line_3 (by decide) ?_
  refine ev_bipush (v := 109) d_Mo_line_5 (by decide) ?_
  refine ev_bipush (v := 101) d_Mo_line_7 (by decide) ?_
  refine ev_iconst (v := 0) d_Mo_line_9 (by decide) ?_
  refine ev_iconst (v := 0) d_Mo_line_10 (by decide) ?_
  refine ev_callV6 d_Mo_line_11 ck_Mo_is ml_Mo_177 im_Mo_is se_Mo_is rfl hG.1 (c_Mo_is (b := (w_w sg s e 0).1) (f := (w_w sg s e 0).2) 0 hG hk h7 h8 a0 (by omega) hn (by decide) (by decide)) (by omega) (Nat.le_of_ble_eq_true rfl) (by omega) (by omega) ?_
  rintro _ _ ⟨rfl, rfl⟩
  refine ev_if_eq 76 d_Mo_line_14 (by decide) (fun q0 => ?_) (fun q0 => ?_)
  · have q0 : ¬ w_is sg s e 0 0 := cI_0 q0
    refine ev_aload_n d_Mo_line_76 rfl rfl ?_
    refine ev_bipush (v := 116) d_Mo_line_77 (by decide) ?_
    refine ev_bipush (v := 101) d_Mo_line_79 (by decide) ?_
    refine ev_bipush (v := 115) d_Mo_line_81 (by decide) ?_
    refine ev_bipush (v := 116) d_Mo_line_83 (by decide) ?_
    refine ev_iconst (v := 0) d_Mo_line_85 (by decide) ?_
    refine ev_iconst (v := 0) d_Mo_line_86 (by decide) ?_
    refine ev_callV6 d_Mo_line_87 ck_Mo_is ml_Mo_177 im_Mo_is se_Mo_is rfl hG.1 (c_Mo_is (b := (w_w sg s e 0).1) (f := (w_w sg s e 0).2) 1 hG hk h7 h8 a0 (by omega) hn (by decide) (by decide)) (by omega) (Nat.le_of_ble_eq_true rfl) (by omega) (by omega) ?_
    rintro _ _ ⟨rfl, rfl⟩
    refine ev_if_eq 98 d_Mo_line_90 (by decide) (fun q1 => ?_) (fun q1 => ?_)
    · have q1 : ¬ w_is sg s e 0 1 := cI_0 q1
      refine ev_aload_n d_Mo_line_98 rfl rfl ?_
      refine em_getI (i := 14) hG d_Mo_line_99 fo_Mo_171 rfl (by (repeat (first | apply va_up_t (h := by decide) | apply mo_w_t (h5 := by decide) (h7 := by decide) (h8 := by decide) | exact va_up_s | exact mo_w_5 | exact mo_w_7 | exact mo_w_8 | assumption)); all_goals rfl) ?_
      refine ev_if_ne 107 d_Mo_line_102 (by decide) (fun ht => ?_) (fun ht => ?_)
      · have ht : 0 < zTn z := by
          rcases Nat.eq_zero_or_pos (zTn z) with y | y
          · rw [y] at ht; exact absurd rfl ht
          · exact y
        refine ev_aload_n d_Mo_line_107 rfl rfl ?_
        refine ev_bipush (v := 101) d_Mo_line_108 (by decide) ?_
        refine ev_bipush (v := 110) d_Mo_line_110 (by decide) ?_
        refine ev_bipush (v := 100) d_Mo_line_112 (by decide) ?_
        refine ev_iconst (v := 0) d_Mo_line_114 (by decide) ?_
        refine ev_iconst (v := 0) d_Mo_line_115 (by decide) ?_
        refine ev_iconst (v := 0) d_Mo_line_116 (by decide) ?_
        refine ev_callV6 d_Mo_line_117 ck_Mo_is ml_Mo_177 im_Mo_is se_Mo_is rfl hG.1 (c_Mo_is (b := (w_w sg s e 0).1) (f := (w_w sg s e 0).2) 2 hG hk h7 h8 a0 (by omega) hn (by decide) (by decide)) (by omega) (Nat.le_of_ble_eq_true rfl) (by omega) (by omega) ?_
        rintro _ _ ⟨rfl, rfl⟩
        refine ev_if_eq 169 d_Mo_line_120 (by decide) (fun q2 => ?_) (fun q2 => ?_)
        · have q2 : ¬ w_is sg s e 0 2 := cI_0 q2
          have e1 : pz_line sg s e n z = zIf (zTn z = 0 ∨ 100 ≤ zSn z - zFi z (zTn z - 1)) none ((pz_fill sg s e n z).map (fun f => pz_push f.1 f.2.1 f.2.2.1 f.2.2.2)) := by
            unfold pz_line
            rw [zIf_f q0, zIf_f q1, zIf_f q2]
          have h17 : M 17 (zTn z) = nI (zFi z (zTn z - 1)) := by
            have := (p8 (zTn z - 1) (by omega)).1
            rw [show zTn z - 1 + 1 = zTn z by omega] at this
            exact this
          have f1 := z8 ht
          have f2 := z6 (zTn z - 1) (by omega)
          refine ev_aload_n d_Mo_line_169 rfl rfl ?_
          refine em_getI (i := 23) hG d_Mo_line_170 fo_Mo_174 rfl (by (repeat (first | apply va_up_t (h := by decide) | apply mo_w_t (h5 := by decide) (h7 := by decide) (h8 := by decide) | exact va_up_s | exact mo_w_5 | exact mo_w_7 | exact mo_w_8 | assumption)); all_goals rfl) ?_
          refine ev_aload_n d_Mo_line_173 rfl rfl ?_
          refine em_getA (i := 17) hG d_Mo_line_174 fo_Mo_28 rfl ?_
          refine ev_aload_n d_Mo_line_177 rfl rfl ?_
          refine em_getI (i := 14) hG d_Mo_line_178 fo_Mo_171 rfl (by (repeat (first | apply va_up_t (h := by decide) | apply mo_w_t (h5 := by decide) (h7 := by decide) (h8 := by decide) | exact va_up_s | exact mo_w_5 | exact mo_w_7 | exact mo_w_8 | assumption)); all_goals rfl) ?_
          refine em_iald (i := 17) (N := 14) hG d_Mo_line_181 rfl rfl (by decide) (by omega) (by (repeat (first | apply va_up_mt (h := by decide) | apply va_up_ms | apply pk_ut (h := by omega) | apply pk_uLt (h := by omega) | exact pk_us | exact pk_uLs | assumption)); all_goals rfl) ?_
          refine ev_isub d_Mo_line_182 ?_
          rw [pk_sub f1.1]
          refine ev_bipush (v := 100) d_Mo_line_183 (by decide) ?_
          refine ev_icmp_ne 190 d_Mo_line_185 (by decide) (fun h1 => ?_) (fun h1 => ?_)
          · have h1 : ¬ zSn z - zFi z (zTn z - 1) = 100 := fun y => h1 (by rw [y]; rfl)
            rw [zIf_f (by omega)] at e1
            have hsn : zSn z < 1200 := by omega
            have hal : ∀ a, zAl z (zTn z - 1) = some a → a < 2 ^ 30 := by
              intro x hx
              obtain ⟨lv, hnn⟩ := hzo.2
              have := (hnn.2.2.2.2.2.2.2.2.2 (zTn z - 1) x (by omega) hx).2.1
              have e2 : zBe z (zTn z - 1) = zSn z := if_neg (by omega)
              omega
            have key : ∀ (M1 : Nat → Nat → Int32) (G : pm_G), mo_at G0 a A I J M1 W G → M1 25 (zSn z) = nI n → M1 26 (zSn z) = 0 → M1 33 (zSn z) = 0 → sn_fr (zSn z) M M1 → M1 18 = M 18 → mp_fr I I J J M M1 → ev_W l X m_Mo_line 5 0 0 (mln_Q G0 a A sg s e n N z I J M) 0 0 241 [(0, .ref a), (1, .int (nI n))] [.ref a] G := by
              intro M1 G hG m25 m26 m33 hsf1 h18 mf
              have hk1 : mk_ok sg M1 N := fun i hi => by rw [mf.2.2.2.1]; exact hk i hi
              have mh := h.st (I' := I) hsf1 sw_0 (Nat.le_refl _) h18 rfl rfl rfl rfl p5
              refine ev_callV0 d_Mo_line_241 ck_Mo_step ml_Mo_193 im_Mo_step se_Mo_step rfl hG.1 (c_Mo_step (s := s) (n := n) hk1 hz mh h6 hse hen hn hsn m25 m26 hc ht hal hx0 h5 h7 h8 hG) (by omega) (Nat.le_of_ble_eq_true rfl) (by omega) (by omega) ?_
              rintro _ G ⟨P, I', J', M', W', rfl, hG, hf, hsf, hno, hyes⟩
              have hf2 : mp_fr I I' J J' M M' := mf.tr hf
              refine ev_if_ne 249 d_Mo_line_244 (by decide) (fun hp => ?_) (fun hp => ?_)
              · have hp := cI_1 hp
                obtain ⟨⟨g, nl, nf, z'⟩, c', hP⟩ := hyes hp
                obtain ⟨s11, s14, s23, s36, s34, hcc, hce, hms, hW, s31, s33, s18, s18b, hfe, k, k1, k2, hgk⟩ := id hP
                replace hgk : g 0 = nI k := hgk
                have hkd : M' 24 (zSn z) = mkd (nI k) := by rw [← hgk]; exact hms.1
                have h23' : I' 23 = nI (zSn z) := s23.trans p3
                have h36' : I' 36 = nI (zDp z) := s36.trans p4
                have hbk : bk_g g ↔ bk_g (fun _ => nI k) := by unfold bk_g; rw [hgk]
                have inv := pz_fill_inv (sg := sg) (s := s) (e := e) (n := n) (f := (g, nl, nf, z')) hz
                refine ev_aload_n d_Mo_line_249 rfl rfl ?_
                refine em_getA (i := 24) hG d_Mo_line_250 fo_Mo_47 rfl ?_
                refine ev_aload_n d_Mo_line_253 rfl rfl ?_
                refine em_getI (i := 23) hG d_Mo_line_254 fo_Mo_174 rfl (by (repeat (first | apply va_up_t (h := by decide) | apply mo_w_t (h5 := by decide) (h7 := by decide) (h8 := by decide) | exact va_up_s | exact mo_w_5 | exact mo_w_7 | exact mo_w_8 | assumption)); all_goals rfl) ?_
                refine em_iald (i := 24) (N := 1200) hG d_Mo_line_257 rfl rfl (by decide) (by omega) (by (repeat (first | apply va_up_mt (h := by decide) | apply va_up_ms | apply pk_ut (h := by omega) | apply pk_uLt (h := by omega) | exact pk_us | exact pk_uLs | assumption)); all_goals rfl) ?_
                refine ev_iconst (v := 5) d_Mo_line_258 (by decide) ?_
                refine ev_icmp_lt 296 d_Mo_line_259 (by decide) (fun h2 => ?_) (fun h2 => ?_)
                · have hb : ¬ bk_g g := fun y => (mkd_lt k1 k2).mp h2 (hbk.mp y)
                  have ef : pz_fill sg s e n z = some (g, nl, nf, z') := by rw [hfe, zIf_f (fun y => hb y.1)]
                  have el : pz_line sg s e n z = some (pz_push g nl nf z') := by rw [e1, ef]; rfl
                  refine ev_aload_n d_Mo_line_296 rfl rfl ?_
                  refine ev_dup d_Mo_line_297 rfl ?_
                  refine em_getI (i := 23) hG d_Mo_line_298 fo_Mo_174 rfl (by (repeat (first | apply va_up_t (h := by decide) | apply mo_w_t (h5 := by decide) (h7 := by decide) (h8 := by decide) | exact va_up_s | exact mo_w_5 | exact mo_w_7 | exact mo_w_8 | assumption)); all_goals rfl) ?_
                  refine ev_iconst (v := 1) d_Mo_line_301 (by decide) ?_
                  refine ev_iadd d_Mo_line_302 ?_
                  rw [nI_1]
                  refine em_putI (i := 23) hG d_Mo_line_303 fo_Mo_174 rfl rfl (by decide) mv_23 (fun G hG => ?_)
                  refine ev_iconst (v := 1) d_Mo_line_306 (by decide) ?_
                  refine ev_zret d_Mo_line_307 rfl rfl ⟨_, _, _, _, by rw [cI_t (by rw [el]; exact fun y => by cases y)], hG, hf2.i (by decide), fun z2 y => ?_⟩
                  rw [el] at y
                  cases y
                  exact ⟨c', mp_push ht mh hsf m33 hP (inv ef).2 (Or.inr ⟨hb, rfl, (by (repeat (first | apply va_up_t (h := by decide) | apply mo_w_t (h5 := by decide) (h7 := by decide) (h8 := by decide) | exact va_up_s | exact mo_w_5 | exact mo_w_7 | exact mo_w_8 | assumption)); all_goals rfl)⟩) (by (repeat (first | apply va_up_t (h := by decide) | apply mo_w_t (h5 := by decide) (h7 := by decide) (h8 := by decide) | exact va_up_s | exact mo_w_5 | exact mo_w_7 | exact mo_w_8 | assumption)); all_goals rfl) (by (repeat (first | apply va_up_t (h := by decide) | apply mo_w_t (h5 := by decide) (h7 := by decide) (h8 := by decide) | exact va_up_s | exact mo_w_5 | exact mo_w_7 | exact mo_w_8 | assumption)); all_goals rfl) (by (repeat (first | apply va_up_t (h := by decide) | apply mo_w_t (h5 := by decide) (h7 := by decide) (h8 := by decide) | exact va_up_s | exact mo_w_5 | exact mo_w_7 | exact mo_w_8 | assumption)); all_goals rfl) va_up_s, hce⟩
                · have hb : bk_g g := Classical.byContradiction fun y => h2 ((mkd_lt k1 k2).mpr (fun y2 => y (hbk.mpr y2)))
                  refine ev_aload_n d_Mo_line_262 rfl rfl ?_
                  refine em_getI (i := 36) hG d_Mo_line_263 fo_Mo_190 rfl (by (repeat (first | apply va_up_t (h := by decide) | apply mo_w_t (h5 := by decide) (h7 := by decide) (h8 := by decide) | exact va_up_s | exact mo_w_5 | exact mo_w_7 | exact mo_w_8 | assumption)); all_goals rfl) ?_
                  refine ev_bipush (v := 8) d_Mo_line_266 (by decide) ?_
                  refine ev_icmp_lt 273 d_Mo_line_268 (by decide) (fun h3 => ?_) (fun h3 => ?_)
                  · have h3 : zDp z < 8 := (nI_ltI (by omega) (b := 8) (by omega)).mp h3
                    have ef : pz_fill sg s e n z = some (g, nl, nf, z') := by rw [hfe, zIf_f (fun y => y.2 h3)]
                    have el : pz_line sg s e n z = some (pz_push g nl nf z') := by rw [e1, ef]; rfl
                    refine ev_aload_n d_Mo_line_273 rfl rfl ?_
                    refine em_getA (i := 37) hG d_Mo_line_274 fo_Mo_81 rfl ?_
                    refine ev_aload_n d_Mo_line_277 rfl rfl ?_
                    refine em_getI (i := 36) hG d_Mo_line_278 fo_Mo_190 rfl (by (repeat (first | apply va_up_t (h := by decide) | apply mo_w_t (h5 := by decide) (h7 := by decide) (h8 := by decide) | exact va_up_s | exact mo_w_5 | exact mo_w_7 | exact mo_w_8 | assumption)); all_goals rfl) ?_
                    refine ev_aload_n d_Mo_line_281 rfl rfl ?_
                    refine em_getI (i := 23) hG d_Mo_line_282 fo_Mo_174 rfl (by (repeat (first | apply va_up_t (h := by decide) | apply mo_w_t (h5 := by decide) (h7 := by decide) (h8 := by decide) | exact va_up_s | exact mo_w_5 | exact mo_w_7 | exact mo_w_8 | assumption)); all_goals rfl) ?_
                    refine em_iast (i := 37) (N := 12) hG d_Mo_line_285 rfl rfl (by decide) (by omega) (fun G hG => ?_)
                    refine ev_aload_n d_Mo_line_286 rfl rfl ?_
                    refine ev_dup d_Mo_line_287 rfl ?_
                    refine em_getI (i := 36) hG d_Mo_line_288 fo_Mo_190 rfl (by (repeat (first | apply va_up_t (h := by decide) | apply mo_w_t (h5 := by decide) (h7 := by decide) (h8 := by decide) | exact va_up_s | exact mo_w_5 | exact mo_w_7 | exact mo_w_8 | assumption)); all_goals rfl) ?_
                    refine ev_iconst (v := 1) d_Mo_line_291 (by decide) ?_
                    refine ev_iadd d_Mo_line_292 ?_
                    rw [nI_1]
                    refine em_putI (i := 36) hG d_Mo_line_293 fo_Mo_190 rfl rfl (by decide) mv_36 (fun G hG => ?_)
                    refine ev_aload_n d_Mo_line_296 rfl rfl ?_
                    refine ev_dup d_Mo_line_297 rfl ?_
                    refine em_getI (i := 23) hG d_Mo_line_298 fo_Mo_174 rfl (by (repeat (first | apply va_up_t (h := by decide) | apply mo_w_t (h5 := by decide) (h7 := by decide) (h8 := by decide) | exact va_up_s | exact mo_w_5 | exact mo_w_7 | exact mo_w_8 | assumption)); all_goals rfl) ?_
                    refine ev_iconst (v := 1) d_Mo_line_301 (by decide) ?_
                    refine ev_iadd d_Mo_line_302 ?_
                    rw [nI_1]
                    refine em_putI (i := 23) hG d_Mo_line_303 fo_Mo_174 rfl rfl (by decide) mv_23 (fun G hG => ?_)
                    refine ev_iconst (v := 1) d_Mo_line_306 (by decide) ?_
                    refine ev_zret d_Mo_line_307 rfl rfl ⟨_, _, _, _, by rw [cI_t (by rw [el]; exact fun y => by cases y)], hG, ((hf2.m (by decide)).i (by decide)).i (by decide), fun z2 y => ?_⟩
                    rw [el] at y
                    cases y
                    exact ⟨c', mp_push ht mh hsf m33 hP (inv ef).2 (Or.inl ⟨hb, rfl, (by (repeat (first | apply va_up_t (h := by decide) | apply mo_w_t (h5 := by decide) (h7 := by decide) (h8 := by decide) | exact va_up_s | exact mo_w_5 | exact mo_w_7 | exact mo_w_8 | assumption)); all_goals rfl)⟩) (by (repeat (first | apply va_up_t (h := by decide) | apply mo_w_t (h5 := by decide) (h7 := by decide) (h8 := by decide) | exact va_up_s | exact mo_w_5 | exact mo_w_7 | exact mo_w_8 | assumption)); all_goals rfl) (by (repeat (first | apply va_up_t (h := by decide) | apply mo_w_t (h5 := by decide) (h7 := by decide) (h8 := by decide) | exact va_up_s | exact mo_w_5 | exact mo_w_7 | exact mo_w_8 | assumption)); all_goals rfl) (by (repeat (first | apply va_up_t (h := by decide) | apply mo_w_t (h5 := by decide) (h7 := by decide) (h8 := by decide) | exact va_up_s | exact mo_w_5 | exact mo_w_7 | exact mo_w_8 | assumption)); all_goals rfl) va_up_s, hce⟩
                  · have h3 : ¬ zDp z < 8 := fun y => h3 (nI_lt (b := 8) y (by omega))
                    have e1 : pz_line sg s e n z = none := by rw [e1, hfe, zIf_t ⟨hb, h3⟩]; rfl
                    refine ev_iconst (v := 0) d_Mo_line_271 (by decide) ?_
                    exact ev_zret d_Mo_line_272 rfl rfl ⟨_, _, _, _, by rw [cI_f (fun q => q e1)], hG, hf2, fun z' q => by rw [e1] at q; cases q⟩
              · have hp := cI_0 hp
                have e1 : pz_line sg s e n z = none := by rw [e1, hno hp]; rfl
                refine ev_iconst (v := 0) d_Mo_line_247 (by decide) ?_
                exact ev_zret d_Mo_line_248 rfl rfl ⟨_, _, _, _, by rw [cI_f (fun q => q e1)], hG, hf2, fun z' q => by rw [e1] at q; cases q⟩
            refine ev_aload_n d_Mo_line_190 rfl rfl ?_
            refine em_getA (i := 25) hG d_Mo_line_191 fo_Mo_50 rfl ?_
            refine ev_aload_n d_Mo_line_194 rfl rfl ?_
            refine em_getI (i := 23) hG d_Mo_line_195 fo_Mo_174 rfl (by (repeat (first | apply va_up_t (h := by decide) | apply mo_w_t (h5 := by decide) (h7 := by decide) (h8 := by decide) | exact va_up_s | exact mo_w_5 | exact mo_w_7 | exact mo_w_8 | assumption)); all_goals rfl) ?_
            refine ev_iload_n d_Mo_line_198 rfl rfl ?_
            refine em_iast (i := 25) (N := 1200) hG d_Mo_line_199 rfl rfl (by decide) (by omega) (fun G hG => ?_)
            refine ev_aload_n d_Mo_line_200 rfl rfl ?_
            refine em_getA (i := 26) hG d_Mo_line_201 fo_Mo_53 rfl ?_
            refine ev_aload_n d_Mo_line_204 rfl rfl ?_
            refine em_getI (i := 23) hG d_Mo_line_205 fo_Mo_174 rfl (by (repeat (first | apply va_up_t (h := by decide) | apply mo_w_t (h5 := by decide) (h7 := by decide) (h8 := by decide) | exact va_up_s | exact mo_w_5 | exact mo_w_7 | exact mo_w_8 | assumption)); all_goals rfl) ?_
            refine ev_iconst (v := 0) d_Mo_line_208 (by decide) ?_
            refine em_iast (i := 26) (N := 1200) hG d_Mo_line_209 rfl rfl (by decide) (by omega) (fun G hG => ?_)
            refine ev_aload_n d_Mo_line_210 rfl rfl ?_
            refine em_getA (i := 33) hG d_Mo_line_211 fo_Mo_74 rfl ?_
            refine ev_aload_n d_Mo_line_214 rfl rfl ?_
            refine em_getI (i := 23) hG d_Mo_line_215 fo_Mo_174 rfl (by (repeat (first | apply va_up_t (h := by decide) | apply mo_w_t (h5 := by decide) (h7 := by decide) (h8 := by decide) | exact va_up_s | exact mo_w_5 | exact mo_w_7 | exact mo_w_8 | assumption)); all_goals rfl) ?_
            refine ev_iconst (v := 0) d_Mo_line_218 (by decide) ?_
            refine em_zast (i := 33) (N := 1200) hG d_Mo_line_219 rfl rfl (by decide) (by omega) (by first | assumption | exact cI_v | decide) (fun G hG => ?_)
            refine ev_aload_n d_Mo_line_220 rfl rfl ?_
            refine em_getA (i := 31) hG d_Mo_line_221 fo_Mo_68 rfl ?_
            refine ev_aload_n d_Mo_line_224 rfl rfl ?_
            refine em_getI (i := 23) hG d_Mo_line_225 fo_Mo_174 rfl (by (repeat (first | apply va_up_t (h := by decide) | apply mo_w_t (h5 := by decide) (h7 := by decide) (h8 := by decide) | exact va_up_s | exact mo_w_5 | exact mo_w_7 | exact mo_w_8 | assumption)); all_goals rfl) ?_
            refine ev_iconst (v := 0) d_Mo_line_228 (by decide) ?_
            refine em_iast (i := 31) (N := 1200) hG d_Mo_line_229 rfl rfl (by decide) (by omega) (fun G hG => ?_)
            refine ev_aload_n d_Mo_line_230 rfl rfl ?_
            refine em_getA (i := 30) hG d_Mo_line_231 fo_Mo_65 rfl ?_
            refine ev_aload_n d_Mo_line_234 rfl rfl ?_
            refine em_getI (i := 23) hG d_Mo_line_235 fo_Mo_174 rfl (by (repeat (first | apply va_up_t (h := by decide) | apply mo_w_t (h5 := by decide) (h7 := by decide) (h8 := by decide) | exact va_up_s | exact mo_w_5 | exact mo_w_7 | exact mo_w_8 | assumption)); all_goals rfl) ?_
            refine ev_iconst (v := 1) d_Mo_line_238 (by decide) ?_
            refine em_iast (i := 30) (N := 1200) hG d_Mo_line_239 rfl rfl (by decide) (by omega) (fun G hG => ?_)
            refine ev_aload_n d_Mo_line_240 rfl rfl ?_
            exact key _ G hG (by (repeat (first | apply va_up_mt (h := by decide) | apply va_up_ms | apply pk_ut (h := by omega) | apply pk_uLt (h := by omega) | exact pk_us | exact pk_uLs | assumption)); all_goals rfl) (by (repeat (first | apply va_up_mt (h := by decide) | apply va_up_ms | apply pk_ut (h := by omega) | apply pk_uLt (h := by omega) | exact pk_us | exact pk_uLs | assumption)); all_goals rfl) (by (repeat (first | apply va_up_mt (h := by decide) | apply va_up_ms | apply pk_ut (h := by omega) | apply pk_uLt (h := by omega) | exact pk_us | exact pk_uLs | assumption)); all_goals rfl) (by repeat (first | exact sn_fr.rf | refine sn_fr.up ?_ (by decide) | refine sn_fr.u18 ?_)) rfl (by repeat (first | exact mp_fr.rf | refine mp_fr.wm ?_ | refine mp_fr.j ?_ | refine mp_fr.m ?_ (by decide) | refine mp_fr.i ?_ (by decide)))
          · have h1 : zSn z - zFi z (zTn z - 1) = 100 := (nI_eq (by omega) (b := 100) (by omega)).mp h1
            rw [zIf_t (by omega)] at e1
            refine ev_iconst (v := 0) d_Mo_line_188 (by decide) ?_
            exact ev_zret d_Mo_line_189 rfl rfl (⟨_, _, _, _, by rw [cI_f (fun q => q e1)], hG, (by repeat (first | exact mp_fr.rf | refine mp_fr.wm ?_ | refine mp_fr.j ?_ | refine mp_fr.m ?_ (by decide) | refine mp_fr.i ?_ (by decide))), fun z' q => by rw [e1] at q; cases q⟩)
        · have q2 : w_is sg s e 0 2 := cI_1 q2
          have e2 : pz_line sg s e n z = zIf (w_c sg s e = 1 ∧ 1 ≤ zDp z) (some (pz_end z)) none := by
            unfold pz_line
            rw [zIf_f q0, zIf_f q1, zIf_t q2]
          have bad : ∀ {I' : Nat → Int32} {G : pm_G}, ¬ (w_c sg s e = 1 ∧ 1 ≤ zDp z) → mp_fr I I' J J M M → mo_at G0 a A I' J M W G → ev_W l X m_Mo_line 5 0 0 (mln_Q G0 a A sg s e n N z I J M) 0 0 137 [(0, .ref a), (1, .int (nI n))] [] G := by
            intro I' G y hf hG
            rw [zIf_f y] at e2
            refine ev_iconst (v := 0) d_Mo_line_137 (by decide) ?_
            exact ev_zret d_Mo_line_138 rfl rfl (⟨_, _, _, _, by rw [cI_f (fun q => q e2)], hG, hf, fun z' q => by rw [e2] at q; cases q⟩)
          refine ev_aload_n d_Mo_line_123 rfl rfl ?_
          refine em_getI (i := 36) hG d_Mo_line_124 fo_Mo_190 rfl (by (repeat (first | apply va_up_t (h := by decide) | apply mo_w_t (h5 := by decide) (h7 := by decide) (h8 := by decide) | exact va_up_s | exact mo_w_5 | exact mo_w_7 | exact mo_w_8 | assumption)); all_goals rfl) ?_
          refine ev_if_eq 137 d_Mo_line_127 (by decide) (fun h1 => ?_) (fun h1 => ?_)
          · have h1 : zDp z = 0 := (nI_eq (by omega) (b := 0) (by omega)).mp h1
            exact bad (by omega) mp_fr.rf hG
          · have h1 : 1 ≤ zDp z := by
              rcases Nat.eq_zero_or_pos (zDp z) with y | y
              · rw [y] at h1; exact absurd rfl h1
              · exact y
            refine ev_aload_n d_Mo_line_130 rfl rfl ?_
            refine ev_callV0 d_Mo_line_131 ck_Mo_through ml_Mo_184 im_Mo_through se_Mo_through rfl hG.1 (c_Mo_through (e := e) (p := (w_w sg s e 0).2) hG (by (repeat (first | apply mk_up (h := by decide) | assumption))) (by (repeat (first | apply va_up_t (h := by decide) | apply mo_w_t (h5 := by decide) (h7 := by decide) (h8 := by decide) | exact va_up_s | exact mo_w_5 | exact mo_w_7 | exact mo_w_8 | assumption)); all_goals rfl) (by (repeat (first | apply va_up_t (h := by decide) | apply mo_w_t (h5 := by decide) (h7 := by decide) (h8 := by decide) | exact va_up_s | exact mo_w_5 | exact mo_w_7 | exact mo_w_8 | assumption)); all_goals rfl) b0 (by omega)) (by omega) (Nat.le_of_ble_eq_true rfl) (by omega) (by omega) ?_
            rintro _ G ⟨rfl, hG⟩
            refine ev_if_ne 139 d_Mo_line_134 (by decide) (fun h2 => ?_) (fun h2 => ?_)
            · have h2 := cI_1 h2
              have h3 : ¬ 1 < w_c sg s e := fun y => h2 (c1.mp y)
              have el : pz_line sg s e n z = some (pz_end z) := by rw [e2, zIf_t ⟨by omega, h1⟩]
              have h37 := p9 (zDp z - 1) (by omega)
              have h38 := z10 (zDp z - 1) (by omega)
              refine ev_aload_n d_Mo_line_139 rfl rfl ?_
              refine ev_dup d_Mo_line_140 rfl ?_
              refine em_getI (i := 36) hG d_Mo_line_141 fo_Mo_190 rfl (by (repeat (first | apply va_up_t (h := by decide) | apply mo_w_t (h5 := by decide) (h7 := by decide) (h8 := by decide) | exact va_up_s | exact mo_w_5 | exact mo_w_7 | exact mo_w_8 | assumption)); all_goals rfl) ?_
              refine ev_iconst (v := 1) d_Mo_line_144 (by decide) ?_
              refine ev_isub d_Mo_line_145 ?_
              rw [show (nI (zDp z) - 1 : Int32) = nI (zDp z - 1) from pk_sub (b := 1) h1]
              refine em_putI (i := 36) hG d_Mo_line_146 fo_Mo_190 rfl rfl (by decide) mv_36 (fun G hG => ?_)
              refine ev_aload_n d_Mo_line_149 rfl rfl ?_
              refine em_getA (i := 31) hG d_Mo_line_150 fo_Mo_68 rfl ?_
              refine ev_aload_n d_Mo_line_153 rfl rfl ?_
              refine em_getA (i := 37) hG d_Mo_line_154 fo_Mo_81 rfl ?_
              refine ev_aload_n d_Mo_line_157 rfl rfl ?_
              refine em_getI (i := 36) hG d_Mo_line_158 fo_Mo_190 rfl (by (repeat (first | apply va_up_t (h := by decide) | apply mo_w_t (h5 := by decide) (h7 := by decide) (h8 := by decide) | exact va_up_s | exact mo_w_5 | exact mo_w_7 | exact mo_w_8 | assumption)); all_goals rfl) ?_
              refine em_iald (i := 37) (N := 12) hG d_Mo_line_161 rfl rfl (by decide) (by omega) (by (repeat (first | apply va_up_mt (h := by decide) | apply va_up_ms | apply pk_ut (h := by omega) | apply pk_uLt (h := by omega) | exact pk_us | exact pk_uLs | assumption)); all_goals rfl) ?_
              refine ev_aload_n d_Mo_line_162 rfl rfl ?_
              refine em_getI (i := 23) hG d_Mo_line_163 fo_Mo_174 rfl (by (repeat (first | apply va_up_t (h := by decide) | apply mo_w_t (h5 := by decide) (h7 := by decide) (h8 := by decide) | exact va_up_s | exact mo_w_5 | exact mo_w_7 | exact mo_w_8 | assumption)); all_goals rfl) ?_
              refine em_iast (i := 31) (N := 1200) hG d_Mo_line_166 rfl rfl (by decide) (by omega) (fun G hG => ?_)
              refine ev_iconst (v := 1) d_Mo_line_167 (by decide) ?_
              refine ev_zret d_Mo_line_168 rfl rfl ⟨_, _, _, _, by rw [cI_t (by rw [el]; exact fun y => by cases y)], hG, (by repeat (first | exact mp_fr.rf | refine mp_fr.wm ?_ | refine mp_fr.j ?_ | refine mp_fr.m ?_ (by decide) | refine mp_fr.i ?_ (by decide))), fun z2 y => ?_⟩
              rw [el] at y
              cases y
              refine ⟨c, ⟨(by (repeat (first | apply va_up_t (h := by decide) | apply mo_w_t (h5 := by decide) (h7 := by decide) (h8 := by decide) | exact va_up_s | exact mo_w_5 | exact mo_w_7 | exact mo_w_8 | assumption)); all_goals rfl), (by (repeat (first | apply va_up_t (h := by decide) | apply mo_w_t (h5 := by decide) (h7 := by decide) (h8 := by decide) | exact va_up_s | exact mo_w_5 | exact mo_w_7 | exact mo_w_8 | assumption)); all_goals rfl), (by (repeat (first | apply va_up_t (h := by decide) | apply mo_w_t (h5 := by decide) (h7 := by decide) (h8 := by decide) | exact va_up_s | exact mo_w_5 | exact mo_w_7 | exact mo_w_8 | assumption)); all_goals rfl), va_up_s, (by (repeat (first | apply va_up_t (h := by decide) | apply mo_w_t (h5 := by decide) (h7 := by decide) (h8 := by decide) | exact va_up_s | exact mo_w_5 | exact mo_w_7 | exact mo_w_8 | assumption)); all_goals rfl), p6, p7, p8, fun j hj => p9 j (by have : j < zDp z - 1 := hj; omega), fun i hi hb => ?_, p11, p12⟩, by omega⟩
              show (∃ j, j < zDp z - 1 ∧ zOp z j = i) ∨ upd (M 31) (zOp z (zDp z - 1)) (nI (zSn z)) i = nI (va_up (zBh z) (zOp z (zDp z - 1)) (zSn z) i)
              by_cases y : i = zOp z (zDp z - 1)
              · exact Or.inr (by rw [y, pk_us, va_up_s])
              · rcases p10 i hi hb with ⟨j, j1, j2⟩ | y2
                · refine Or.inl ⟨j, ?_, j2⟩
                  have : j ≠ zDp z - 1 := fun w => y (by rw [← j2, w])
                  omega
                · exact Or.inr (by rw [pk_un y, va_up_n y]; exact y2)
            · have h2 := cI_0 h2
              exact bad (fun y => h2 (fun w => by have := c1.mpr w; omega)) mp_fr.w hG
      · have ht : zTn z = 0 := (nI_eq (by omega) (b := 0) (by omega)).mp ht
        have e1 : pz_line sg s e n z = none := by
          unfold pz_line
          rw [zIf_f q0, zIf_f q1]
          by_cases q2 : w_is sg s e 0 2
          · rw [zIf_t q2, zIf_f (fun y => by have := (z5 ht).2; omega)]
          · rw [zIf_f q2, zIf_t (Or.inl ht)]
        refine ev_iconst (v := 0) d_Mo_line_105 (by decide) ?_
        exact ev_zret d_Mo_line_106 rfl rfl (⟨_, _, _, _, by rw [cI_f (fun q => q e1)], hG, (by repeat (first | exact mp_fr.rf | refine mp_fr.wm ?_ | refine mp_fr.j ?_ | refine mp_fr.m ?_ (by decide) | refine mp_fr.i ?_ (by decide))), fun z' q => by rw [e1] at q; cases q⟩)
    · have q1 : w_is sg s e 0 1 := cI_1 q1
      have e1 : pz_line sg s e n z = zIf (w_c sg s e = 2 ∧ w_key sg s e 1 ≠ 0 ∧ ¬ zTaken z (w_key sg s e 1) ∧ zDp z = 0 ∧ zTn z < 12) (some (pz_test (w_key sg s e 1) z)) none := by
        unfold pz_line
        rw [zIf_f q0, zIf_t q1]
      refine ev_aload_n d_Mo_line_93 rfl rfl ?_
      refine ev_callV0 d_Mo_line_94 ck_Mo_addTest ml_Mo_187 im_Mo_addTest se_Mo_addTest rfl hG.1 (c_Mo_addTest (s := s) hG hk hz h h5 h6 hse hen hn) (by omega) (Nat.le_of_ble_eq_true rfl) (by omega) (by omega) ?_
      rintro _ G ⟨rfl, I', M', hG, hf, hy⟩
      by_cases hT : w_c sg s e = 2 ∧ w_key sg s e 1 ≠ 0 ∧ ¬ zTaken z (w_key sg s e 1) ∧ zDp z = 0 ∧ zTn z < 12
      · rw [zIf_t hT] at e1
        refine ev_zret d_Mo_line_97 rfl cI_n ⟨_, _, _, _, by rw [cI_t hT, cI_t (by rw [e1]; exact fun y => by cases y)], hG, hf, fun z2 y => ?_⟩
        rw [e1] at y
        cases y
        exact ⟨c, hy hT, by omega⟩
      · rw [zIf_f hT] at e1
        exact ev_zret d_Mo_line_97 rfl cI_n ⟨_, _, _, _, by rw [cI_f hT, cI_f (fun q => q e1)], hG, hf, fun z' q => by rw [e1] at q; cases q⟩
  · have q0 : w_is sg s e 0 0 := cI_1 q0
    have e2 : pz_line sg s e n z = zIf (w_c sg s e = 2 ∧ w_key sg s e 1 ≠ 0 ∧ ¬ zTaken z (w_key sg s e 1) ∧ zVn z < 20) (some (pz_name (w_key sg s e 1) z)) none := by
      unfold pz_line
      rw [zIf_t q0]
    refine ev_aload_n d_Mo_line_17 rfl rfl ?_
    refine ev_callV0 d_Mo_line_18 ck_Mo_newName ml_Mo_181 im_Mo_newName se_Mo_newName rfl hG.1 (c_Mo_newName (b := (w_w sg s e 1).1) (f := (w_w sg s e 1).2) hG hk h5 h6 b0 hen hn rfl rfl p1 z1 p6 p2 z3 p7) (by omega) (Nat.le_of_ble_eq_true rfl) (by omega) (by omega) ?_
    rintro _ G ⟨rfl, hG⟩
    have bad : ¬ (w_c sg s e = 2 ∧ w_key sg s e 1 ≠ 0 ∧ ¬ zTaken z (w_key sg s e 1) ∧ zVn z < 20) → ev_W l X m_Mo_line 5 0 0 (mln_Q G0 a A sg s e n N z I J M) 0 0 33 [(0, .ref a), (1, .int (nI n))] [] G := by
      intro y
      rw [zIf_f y] at e2
      refine ev_iconst (v := 0) d_Mo_line_33 (by decide) ?_
      exact ev_zret d_Mo_line_34 rfl rfl (⟨_, _, _, _, by rw [cI_f (fun q => q e2)], hG, mp_fr.w, fun z' q => by rw [e2] at q; cases q⟩)
    refine ev_if_eq 33 d_Mo_line_21 (by decide) (fun h0 => ?_) (fun h0 => ?_)
    · exact bad (fun q => cI_0 h0 ⟨ky_nm.mpr q.2.1, q.2.2.1⟩)
    · obtain ⟨g1, g2⟩ := cI_1 h0
      refine ev_aload_n d_Mo_line_24 rfl rfl ?_
      refine em_getI (i := 11) hG d_Mo_line_25 fo_Mo_157 rfl (by (repeat (first | apply va_up_t (h := by decide) | apply mo_w_t (h5 := by decide) (h7 := by decide) (h8 := by decide) | exact va_up_s | exact mo_w_5 | exact mo_w_7 | exact mo_w_8 | assumption)); all_goals rfl) ?_
      refine ev_bipush (v := 20) d_Mo_line_28 (by decide) ?_
      refine ev_icmp_ne 35 d_Mo_line_30 (by decide) (fun h1 => ?_) (fun h1 => ?_)
      · have v20 : zVn z < 20 := by
          rcases Nat.lt_or_ge (zVn z) 20 with y | y
          · exact y
          · exact absurd (by rw [show zVn z = 20 by omega]; rfl) h1
        refine ev_aload_n d_Mo_line_35 rfl rfl ?_
        refine ev_dup d_Mo_line_36 rfl ?_
        refine em_getI (i := 11) hG d_Mo_line_37 fo_Mo_157 rfl (by (repeat (first | apply va_up_t (h := by decide) | apply mo_w_t (h5 := by decide) (h7 := by decide) (h8 := by decide) | exact va_up_s | exact mo_w_5 | exact mo_w_7 | exact mo_w_8 | assumption)); all_goals rfl) ?_
        refine ev_iconst (v := 1) d_Mo_line_40 (by decide) ?_
        refine ev_iadd d_Mo_line_41 ?_
        rw [nI_1]
        refine em_putI (i := 11) hG d_Mo_line_42 fo_Mo_157 rfl rfl (by decide) mv_11 (fun G hG => ?_)
        refine ev_aload_n d_Mo_line_45 rfl rfl ?_
        refine em_getA (i := 12) hG d_Mo_line_46 fo_Mo_16 rfl ?_
        refine ev_aload_n d_Mo_line_49 rfl rfl ?_
        refine em_getI (i := 11) hG d_Mo_line_50 fo_Mo_157 rfl (by (repeat (first | apply va_up_t (h := by decide) | apply mo_w_t (h5 := by decide) (h7 := by decide) (h8 := by decide) | exact va_up_s | exact mo_w_5 | exact mo_w_7 | exact mo_w_8 | assumption)); all_goals rfl) ?_
        refine ev_aload_n d_Mo_line_53 rfl rfl ?_
        refine em_getI (i := 7) hG d_Mo_line_54 fo_Mo_140 rfl (by (repeat (first | apply va_up_t (h := by decide) | apply mo_w_t (h5 := by decide) (h7 := by decide) (h8 := by decide) | exact va_up_s | exact mo_w_5 | exact mo_w_7 | exact mo_w_8 | assumption)); all_goals rfl) ?_
        refine em_iast (i := 12) (N := 21) hG d_Mo_line_57 rfl rfl (by decide) (by omega) (fun G hG => ?_)
        refine ev_aload_n d_Mo_line_58 rfl rfl ?_
        refine em_getA (i := 13) hG d_Mo_line_59 fo_Mo_19 rfl ?_
        refine ev_aload_n d_Mo_line_62 rfl rfl ?_
        refine em_getI (i := 11) hG d_Mo_line_63 fo_Mo_157 rfl (by (repeat (first | apply va_up_t (h := by decide) | apply mo_w_t (h5 := by decide) (h7 := by decide) (h8 := by decide) | exact va_up_s | exact mo_w_5 | exact mo_w_7 | exact mo_w_8 | assumption)); all_goals rfl) ?_
        refine ev_aload_n d_Mo_line_66 rfl rfl ?_
        refine em_getI (i := 8) hG d_Mo_line_67 fo_Mo_143 rfl (by (repeat (first | apply va_up_t (h := by decide) | apply mo_w_t (h5 := by decide) (h7 := by decide) (h8 := by decide) | exact va_up_s | exact mo_w_5 | exact mo_w_7 | exact mo_w_8 | assumption)); all_goals rfl) ?_
        refine em_iast (i := 13) (N := 21) hG d_Mo_line_70 rfl rfl (by decide) (by omega) (fun G hG => ?_)
        refine ev_aload_n d_Mo_line_71 rfl rfl ?_
        refine ev_callV0 d_Mo_line_72 ck_Mo_through ml_Mo_184 im_Mo_through se_Mo_through rfl hG.1 (c_Mo_through (e := e) (p := (w_w sg s e 1).2) hG (by (repeat (first | apply mk_up (h := by decide) | assumption))) (by (repeat (first | apply va_up_t (h := by decide) | apply mo_w_t (h5 := by decide) (h7 := by decide) (h8 := by decide) | exact va_up_s | exact mo_w_5 | exact mo_w_7 | exact mo_w_8 | assumption)); all_goals rfl) (by (repeat (first | apply va_up_t (h := by decide) | apply mo_w_t (h5 := by decide) (h7 := by decide) (h8 := by decide) | exact va_up_s | exact mo_w_5 | exact mo_w_7 | exact mo_w_8 | assumption)); all_goals rfl) b3 (by omega)) (by omega) (Nat.le_of_ble_eq_true rfl) (by omega) (by omega) ?_
        rintro _ G ⟨rfl, hG⟩
        by_cases hx2 : wx sg s e 2
        · have hx3 := c2.mpr hx2
          rw [zIf_f (by omega)] at e2
          exact ev_zret d_Mo_line_75 rfl cI_n ⟨_, _, _, _, by rw [cI_f (fun q => q hx2), cI_f (fun q => q e2)], hG, (by repeat (first | exact mp_fr.rf | refine mp_fr.wm ?_ | refine mp_fr.j ?_ | refine mp_fr.m ?_ (by decide) | refine mp_fr.i ?_ (by decide))), fun z' q => by rw [e2] at q; cases q⟩
        · have hx3 : ¬ 2 < w_c sg s e := fun y => hx2 (c2.mp y)
          have hx1 := c1.mpr g1.1
          rw [zIf_t ⟨by omega, ky_nm.mp g1, g2, v20⟩] at e2
          refine ev_zret d_Mo_line_75 rfl cI_n ⟨_, _, _, _, by rw [cI_t (show ¬ (w_at sg e (w_w sg s e 1).2).1 < (w_at sg e (w_w sg s e 1).2).2 from hx2), cI_t (by rw [e2]; exact fun y => by cases y)], hG, (by repeat (first | exact mp_fr.rf | refine mp_fr.wm ?_ | refine mp_fr.j ?_ | refine mp_fr.m ?_ (by decide) | refine mp_fr.i ?_ (by decide))), fun z2 y => ?_⟩
          rw [e2] at y
          cases y
          exact ⟨c, ⟨(by (repeat (first | apply va_up_t (h := by decide) | apply mo_w_t (h5 := by decide) (h7 := by decide) (h8 := by decide) | exact va_up_s | exact mo_w_5 | exact mo_w_7 | exact mo_w_8 | assumption)); all_goals rfl), (by (repeat (first | apply va_up_t (h := by decide) | apply mo_w_t (h5 := by decide) (h7 := by decide) (h8 := by decide) | exact va_up_s | exact mo_w_5 | exact mo_w_7 | exact mo_w_8 | assumption)); all_goals rfl), (by (repeat (first | apply va_up_t (h := by decide) | apply mo_w_t (h5 := by decide) (h7 := by decide) (h8 := by decide) | exact va_up_s | exact mo_w_5 | exact mo_w_7 | exact mo_w_8 | assumption)); all_goals rfl), (by (repeat (first | apply va_up_t (h := by decide) | apply mo_w_t (h5 := by decide) (h7 := by decide) (h8 := by decide) | exact va_up_s | exact mo_w_5 | exact mo_w_7 | exact mo_w_8 | assumption)); all_goals rfl), (by (repeat (first | apply va_up_t (h := by decide) | apply mo_w_t (h5 := by decide) (h7 := by decide) (h8 := by decide) | exact va_up_s | exact mo_w_5 | exact mo_w_7 | exact mo_w_8 | assumption)); all_goals rfl), nm_sl_up p6 g1 (by omega), p7, p8, p9, p10, p11, p12⟩, by omega⟩
      · have h1 : zVn z = 20 := (nI_eq (by omega) (b := 20) (by omega)).mp h1
        exact bad (fun q => by have := q.2.2.2; omega)
end ML
