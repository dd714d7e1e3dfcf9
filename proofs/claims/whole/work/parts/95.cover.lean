/-! THE MODEL ANSWERS: namedBy, cover, count -/
section MC
variable {l : Launch} {X : pm_X} {G G0 : pm_G} {a : Nat} {A : Nat → Nat} {I : Nat → Int32} {J : Nat → Int64} {M : Nat → Nat → Int32} {W : Nat → Nat → Int64} {z : pz} {c i rc vn : Nat} {k f : Int32} {D : Nat → tr_D} {td : Nat → Int64 × (Nat → Int32)} {sd : Nat → Nat → Int32}
theorem be_le (hz : pz_ok z) (hi : i < zTn z) : zFi z i ≤ zBe z i ∧ zBe z i ≤ zSn z := by
  obtain ⟨lv, hn⟩ := hz.2
  obtain ⟨-, -, p3, p4, -⟩ := pz_pt hz.1 hn i hi
  exact ⟨p3, p4⟩
theorem c_Mo_namedBy (hz : pz_ok z) (hpm : pz_m z) (hi : i < zTn z) (hpl : mpl_ok z c M W) (hG : mo_at G0 a A I J M W G) : cn_M l X m_Mo_namedBy 0 0 0 [.ref a, .int (nI (i + 1))] G (fun r G' => r = some (.int (zNm z i)) ∧ G = G') := by
  obtain ⟨b1, b2⟩ := be_le hz hi
  have snb := hz.1.sn
  have t12 := hz.1.2.2.1
  obtain ⟨lv, hn⟩ := hz.2
  have g17 : M 17 (i + 1) = nI (zFi z i) := (hpl.2.2.2.1 i hi).1
  have g17b : M 17 (i + 1 + 1) = nI (zBe z i) := by
    unfold zBe
    by_cases y : i + 1 < zTn z
    · rw [if_pos y]; exact (hpl.2.2.2.1 (i + 1) y).1
    · rw [if_neg y, show i + 1 + 1 = zTn z + 1 by omega]; exact hpl.2.2.2.2 (by omega)
  have hv : ∀ j, j < zSn z → ∃ v, v ≤ 20 ∧ zSd z j 2 = nI v := fun j hj => (hn.1 j hj).2.2.2.2.2.2.2.1
  refine cn_in rfl (Nat.le_of_ble_eq_true rfl) ?_
  have loop : ∀ (m k : Nat), zFi z i + k + m = zBe z i → ev_W l X m_Mo_namedBy 0 0 0 (fun r G' => r = some (.int (zNm z i)) ∧ G = G') 0 0 9 [(0, .ref a), (1, .int (nI (i + 1))), (2, .int (nm_m (zSd z) k (zFi z i))), (3, .int (nI (zFi z i + k)))] [] G := by
    intro m
    induction m with
    | zero =>
      intro k hk
      refine ev_iload_n d_Mo_namedBy_9 rfl rfl ?_
      refine ev_aload_n d_Mo_namedBy_10 rfl rfl ?_
      refine em_getA (i := 17) hG d_Mo_namedBy_11 fo_Mo_28 rfl ?_
      refine ev_iload_n d_Mo_namedBy_14 rfl rfl ?_
      refine ev_iconst (v := 1) d_Mo_namedBy_15 (by decide) ?_
      refine ev_iadd d_Mo_namedBy_16 ?_
      rw [nI_1]
      refine em_iald (i := 17) (N := 14) hG d_Mo_namedBy_17 rfl rfl (by decide) (by omega) (by (repeat (first | apply va_up_mt (h := by decide) | apply va_up_ms | apply pk_ut (h := by omega) | apply pk_uLt (h := by omega) | exact pk_us | exact pk_uLs | assumption)); all_goals rfl) ?_
      refine ev_icmp_ge 38 d_Mo_namedBy_18 (by decide) (fun _ => ?_) (fun w => absurd (nI_le (by omega) (by omega)) w)
      refine ev_iload_n d_Mo_namedBy_38 rfl rfl ?_
      refine ev_bipush (v := -2) d_Mo_namedBy_39 (by decide) ?_
      refine ev_iand d_Mo_namedBy_41 ?_
      refine ev_iret d_Mo_namedBy_42 rfl ⟨?_, rfl⟩
      rw [nm_mf k (fun j j1 j2 => hv j (by omega)), hpm i hi, show zBe z i - zFi z i = k by omega]
    | succ m ih =>
      intro k hk
      have h26 : M 26 (zFi z i + k) = zSd z (zFi z i + k) 2 := (hpl.2.1 (zFi z i + k) (by omega)).2.2.1
      refine ev_iload_n d_Mo_namedBy_9 rfl rfl ?_
      refine ev_aload_n d_Mo_namedBy_10 rfl rfl ?_
      refine em_getA (i := 17) hG d_Mo_namedBy_11 fo_Mo_28 rfl ?_
      refine ev_iload_n d_Mo_namedBy_14 rfl rfl ?_
      refine ev_iconst (v := 1) d_Mo_namedBy_15 (by decide) ?_
      refine ev_iadd d_Mo_namedBy_16 ?_
      rw [nI_1]
      refine em_iald (i := 17) (N := 14) hG d_Mo_namedBy_17 rfl rfl (by decide) (by omega) (by (repeat (first | apply va_up_mt (h := by decide) | apply va_up_ms | apply pk_ut (h := by omega) | apply pk_uLt (h := by omega) | exact pk_us | exact pk_uLs | assumption)); all_goals rfl) ?_
      refine ev_icmp_ge 38 d_Mo_namedBy_18 (by decide) (fun w => absurd w (nI_ge (by omega) (by omega))) (fun _ => ?_)
      refine ev_iload_n d_Mo_namedBy_21 rfl rfl ?_
      refine ev_iconst (v := 1) d_Mo_namedBy_22 (by decide) ?_
      refine ev_aload_n d_Mo_namedBy_23 rfl rfl ?_
      refine em_getA (i := 26) hG d_Mo_namedBy_24 fo_Mo_53 rfl ?_
      refine ev_iload_n d_Mo_namedBy_27 rfl rfl ?_
      refine em_iald (i := 26) (N := 1200) hG d_Mo_namedBy_28 rfl rfl (by decide) (by omega) (by (repeat (first | apply va_up_mt (h := by decide) | apply va_up_ms | apply pk_ut (h := by omega) | apply pk_uLt (h := by omega) | exact pk_us | exact pk_uLs | assumption)); all_goals rfl) ?_
      refine ev_ishl d_Mo_namedBy_29 ?_
      refine ev_ior d_Mo_namedBy_30 ?_
      refine ev_istore_n d_Mo_namedBy_31 rfl (by decide) ?_
      refine ev_iinc d_Mo_namedBy_32 rfl (by first | exact nI_1 _ | rfl) (by decide) ?_
      refine ev_goto 9 d_Mo_namedBy_35 (by decide) ?_
      exact ih (k + 1) (by omega)
  refine ev_iconst (v := 0) d_Mo_namedBy_0 (by decide) ?_
  refine ev_istore_n d_Mo_namedBy_1 rfl (by decide) ?_
  refine ev_aload_n d_Mo_namedBy_2 rfl rfl ?_
  refine em_getA (i := 17) hG d_Mo_namedBy_3 fo_Mo_28 rfl ?_
  refine ev_iload_n d_Mo_namedBy_6 rfl rfl ?_
  refine em_iald (i := 17) (N := 14) hG d_Mo_namedBy_7 rfl rfl (by decide) (by omega) (by (repeat (first | apply va_up_mt (h := by decide) | apply va_up_ms | apply pk_ut (h := by omega) | apply pk_uLt (h := by omega) | exact pk_us | exact pk_uLs | assumption)); all_goals rfl) ?_
  refine ev_istore_n d_Mo_namedBy_8 rfl (by decide) ?_
  exact loop (zBe z i - zFi z i) 0 (by omega)
theorem tr_sum_le {D : Nat → tr_D} : ∀ n, (∀ j, j < n → (D j).1 ≤ 2000) → tr_sum D n ≤ 2000 * n := by
  intro n
  induction n with
  | zero => intro _; exact Nat.le_refl _
  | succ n ih => intro h; rw [tr_sum]; have := ih (fun j hj => h j (by omega)); have := h n (by omega); omega
set_option maxHeartbeats 1000000 in
theorem c_Mo_cover (hz : pz_ok z) (hpm : pz_m z) (hpl : mpl_ok z c M W) (h11 : I 11 = nI (zVn z)) (h14 : I 14 = nI (zTn z)) (h44 : I 44 = nI rc) (hrc : rc ≤ 8) (hrw : mrw D rc M W) (h33 : ∀ j, j < zSn z → M 33 j = sd j 8) (htd : ∀ j, j < zTn z → (td j).2 4 = zNm z j) (hG : mo_at G0 a A I J M W G) : cn_M l X m_Mo_cover 1 0 0 [.ref a, .int k, .int f] G (fun r G' => ((k = 0 ∧ (((f < 1 ∨ nI (zTn z) < f) ∧ r = some (.int (-1))) ∨ ∃ j, j < zTn z ∧ f = nI (j + 1) ∧ r = some (.int (nI (pl_cb sd (zBe z j - zFi z j) (zFi z j)))))) ∨ (k = 1 ∧ r = some (.int (if f < 1 ∨ nI (zVn z) < f then -1 else nI (pl_ct td f (zTn z))))) ∨ (k = 2 ∧ r = some (.int (nI (tr_sum D rc)))) ∨ (k ≠ 0 ∧ k ≠ 1 ∧ k ≠ 2 ∧ r = some (.int (-2)))) ∧ mo_at G0 a A (va_up I 0 0) J M W G') := by
  have snb := hz.1.sn
  have t12 := hz.1.2.2.1
  have v20 := hz.1.1
  refine cn_in rfl (Nat.le_of_ble_eq_true rfl) ?_
  refine ev_aload_n d_Mo_cover_0 rfl rfl ?_
  refine ev_iconst (v := 0) d_Mo_cover_1 (by decide) ?_
  refine em_putI (i := 0) hG d_Mo_cover_2 fo_Mo_127 rfl rfl (by decide) mv_0 (fun G hG => ?_)
  refine ev_iload_n d_Mo_cover_5 rfl rfl ?_
  have other : (k < 0 ∨ 2 < k) → k ≠ 0 ∧ k ≠ 1 ∧ k ≠ 2 := by
    intro w
    refine ⟨fun y => ?_, fun y => ?_, fun y => ?_⟩ <;> (rw [y] at w; exact absurd w (by decide))
  have bad : ∀ (G : pm_G), (k < 0 ∨ 2 < k) → mo_at G0 a A (va_up I 0 0) J M W G → ev_W l X m_Mo_cover 1 0 0 (fun r G' => ((k = 0 ∧ (((f < 1 ∨ nI (zTn z) < f) ∧ r = some (.int (-1))) ∨ ∃ j, j < zTn z ∧ f = nI (j + 1) ∧ r = some (.int (nI (pl_cb sd (zBe z j - zFi z j) (zFi z j)))))) ∨ (k = 1 ∧ r = some (.int (if f < 1 ∨ nI (zVn z) < f then -1 else nI (pl_ct td f (zTn z))))) ∨ (k = 2 ∧ r = some (.int (nI (tr_sum D rc)))) ∨ (k ≠ 0 ∧ k ≠ 1 ∧ k ≠ 2 ∧ r = some (.int (-2)))) ∧ mo_at G0 a A (va_up I 0 0) J M W G') 0 0 14 [(0, .ref a), (1, .int k), (2, .int f)] [] G := by
    intro G w hG
    refine ev_bipush (v := -2) d_Mo_cover_14 (by decide) ?_
    exact ev_iret d_Mo_cover_16 rfl (⟨Or.inr (Or.inr (Or.inr ⟨(other w).1, (other w).2.1, (other w).2.2, rfl⟩)), hG⟩)
  refine ev_if_lt 14 d_Mo_cover_6 (by decide) (fun h1 => ?_) (fun h1 => ?_)
  · exact bad G (Or.inl h1) hG
  · refine ev_iload_n d_Mo_cover_9 rfl rfl ?_
    refine ev_iconst (v := 2) d_Mo_cover_10 (by decide) ?_
    by_cases h2 : 2 < k
    · refine ev_icmp_le 17 d_Mo_cover_11 (by decide) (fun w => absurd h2 (Int32.not_lt.mpr w)) (fun _ => ?_)
      exact bad G (Or.inr h2) hG
    · refine ev_icmp_le 17 d_Mo_cover_11 (by decide) (fun _ => ?_) (fun w => absurd (Int32.not_le.mp w) h2)
      obtain ⟨t, t1, t2, t3⟩ := i32_of (x := k) (a := 0) (b := 2) (Int32.not_lt.mp h1) (Int32.not_lt.mp h2) (by omega) (by omega)
      have : t = 0 ∨ t = 1 ∨ t = 2 := by omega
      rcases this with rfl | rfl | rfl
      · -- the steps of a test that were begun
        have k0 : k = 0 := t3
        subst k0
        clear t3
        refine ev_iload_n d_Mo_cover_17 rfl rfl ?_
        refine ev_if_ne 29 d_Mo_cover_18 (by decide) (fun w => absurd rfl w) (fun _ => ?_)
        refine ev_aload_n d_Mo_cover_21 rfl rfl ?_
        refine ev_iload_n d_Mo_cover_22 rfl rfl ?_
        refine ev_callV1 d_Mo_cover_23 ck_Mo_noTest ml_Mo_305 im_Mo_noTest se_Mo_noTest rfl hG.1 (c_Mo_noTest hG (by (repeat (first | apply va_up_t (h := by decide) | apply mo_w_t (h5 := by decide) (h7 := by decide) (h8 := by decide) | exact va_up_s | exact mo_w_5 | exact mo_w_7 | exact mo_w_8 | assumption)); all_goals rfl)) (by omega) (Nat.le_of_ble_eq_true rfl) (by omega) (by omega) ?_
        rintro _ G ⟨rfl, hG⟩
        rw [va_up2] at hG
        refine ev_if_ne 47 d_Mo_cover_26 (by decide) (fun h3 => ?_) (fun h3 => ?_)
        · have h3 := cI_1 h3
          refine ev_iconst (v := -1) d_Mo_cover_47 (by decide) ?_
          exact ev_iret d_Mo_cover_48 rfl (⟨Or.inl ⟨rfl, Or.inl ⟨h3, rfl⟩⟩, hG⟩)
        · obtain ⟨j, j1, rfl⟩ := ix_of (cI_0 h3) (by omega)
          obtain ⟨b1, b2⟩ := be_le hz j1
          have g17 : M 17 (j + 1) = nI (zFi z j) := (hpl.2.2.2.1 j j1).1
          have g17b : M 17 (j + 1 + 1) = nI (zBe z j) := by
            unfold zBe
            by_cases y : j + 1 < zTn z
            · rw [if_pos y]; exact (hpl.2.2.2.1 (j + 1) y).1
            · rw [if_neg y, show j + 1 + 1 = zTn z + 1 by omega]; exact hpl.2.2.2.2 (by omega)
          obtain ⟨E, hE⟩ : ∃ E, E = pl_cb sd (zBe z j - zFi z j) (zFi z j) := ⟨_, rfl⟩
          have fin : ∀ (s : Int32), ev_W l X m_Mo_cover 1 0 0 (fun (r : Option Value) (G' : pm_G) => (((0 : Int32) = 0 ∧ (((nI (j + 1) < 1 ∨ nI (zTn z) < nI (j + 1)) ∧ r = some (.int (-1))) ∨ ∃ j', j' < zTn z ∧ nI (j + 1) = nI (j' + 1) ∧ r = some (.int (nI (pl_cb sd (zBe z j' - zFi z j') (zFi z j')))))) ∨ ((0 : Int32) = 1 ∧ r = some (.int (if nI (j + 1) < 1 ∨ nI (zVn z) < nI (j + 1) then -1 else nI (pl_ct td (nI (j + 1)) (zTn z))))) ∨ ((0 : Int32) = 2 ∧ r = some (.int (nI (tr_sum D rc)))) ∨ ((0 : Int32) ≠ 0 ∧ (0 : Int32) ≠ 1 ∧ (0 : Int32) ≠ 2 ∧ r = some (.int (-2)))) ∧ mo_at G0 a A (va_up I 0 0) J M W G') 0 0 100 [(0, .ref a), (1, .int 0), (2, .int (nI (j + 1))), (3, .int (nI E)), (4, .int s)] [] G := by
            intro s
            refine ev_iload_n d_Mo_cover_100 rfl rfl ?_
            refine ev_iconst (v := 1) d_Mo_cover_101 (by decide) ?_
            refine ev_icmp_ne 136 d_Mo_cover_102 (by decide) (fun _ => ?_) (fun w => absurd w (by decide))
            refine ev_iload_n d_Mo_cover_136 rfl rfl ?_
            refine ev_iconst (v := 2) d_Mo_cover_137 (by decide) ?_
            refine ev_icmp_ne 169 d_Mo_cover_138 (by decide) (fun _ => ?_) (fun w => absurd w (by decide))
            refine ev_iload_n d_Mo_cover_169 rfl rfl ?_
            exact ev_iret d_Mo_cover_170 rfl (⟨Or.inl ⟨rfl, Or.inr ⟨j, j1, rfl, by rw [hE]⟩⟩, hG⟩)
          have loop : ∀ (m s acc : Nat), s + m = zBe z j → zFi z j ≤ s → acc + pl_cb sd m s = E → ev_W l X m_Mo_cover 1 0 0 (fun (r : Option Value) (G' : pm_G) => (((0 : Int32) = 0 ∧ (((nI (j + 1) < 1 ∨ nI (zTn z) < nI (j + 1)) ∧ r = some (.int (-1))) ∨ ∃ j', j' < zTn z ∧ nI (j + 1) = nI (j' + 1) ∧ r = some (.int (nI (pl_cb sd (zBe z j' - zFi z j') (zFi z j')))))) ∨ ((0 : Int32) = 1 ∧ r = some (.int (if nI (j + 1) < 1 ∨ nI (zVn z) < nI (j + 1) then -1 else nI (pl_ct td (nI (j + 1)) (zTn z))))) ∨ ((0 : Int32) = 2 ∧ r = some (.int (nI (tr_sum D rc)))) ∨ ((0 : Int32) ≠ 0 ∧ (0 : Int32) ≠ 1 ∧ (0 : Int32) ≠ 2 ∧ r = some (.int (-2)))) ∧ mo_at G0 a A (va_up I 0 0) J M W G') 0 0 63 [(0, .ref a), (1, .int 0), (2, .int (nI (j + 1))), (3, .int (nI acc)), (4, .int (nI s))] [] G := by
            intro m
            induction m with
            | zero =>
              intro s acc hs hs2 hacc
              refine ev_iload d_Mo_cover_63 rfl ?_
              refine ev_aload_n d_Mo_cover_65 rfl rfl ?_
              refine em_getA (i := 17) hG d_Mo_cover_66 fo_Mo_28 rfl ?_
              refine ev_iload_n d_Mo_cover_69 rfl rfl ?_
              refine ev_iconst (v := 1) d_Mo_cover_70 (by decide) ?_
              refine ev_iadd d_Mo_cover_71 ?_
              rw [nI_1]
              refine em_iald (i := 17) (N := 14) hG d_Mo_cover_72 rfl rfl (by decide) (by omega) (by (repeat (first | apply va_up_mt (h := by decide) | apply va_up_ms | apply pk_ut (h := by omega) | apply pk_uLt (h := by omega) | exact pk_us | exact pk_uLs | assumption)); all_goals rfl) ?_
              refine ev_icmp_ge 100 d_Mo_cover_73 (by decide) (fun _ => ?_) (fun w => absurd (nI_le (by omega) (by omega)) w)
              have ea : acc = E := hacc
              subst ea
              exact fin _
            | succ m ih =>
              intro s acc hs hs2 hacc
              have g33 := h33 s (by omega)
              rw [pl_cb] at hacc
              refine ev_iload d_Mo_cover_63 rfl ?_
              refine ev_aload_n d_Mo_cover_65 rfl rfl ?_
              refine em_getA (i := 17) hG d_Mo_cover_66 fo_Mo_28 rfl ?_
              refine ev_iload_n d_Mo_cover_69 rfl rfl ?_
              refine ev_iconst (v := 1) d_Mo_cover_70 (by decide) ?_
              refine ev_iadd d_Mo_cover_71 ?_
              rw [nI_1]
              refine em_iald (i := 17) (N := 14) hG d_Mo_cover_72 rfl rfl (by decide) (by omega) (by (repeat (first | apply va_up_mt (h := by decide) | apply va_up_ms | apply pk_ut (h := by omega) | apply pk_uLt (h := by omega) | exact pk_us | exact pk_uLs | assumption)); all_goals rfl) ?_
              refine ev_icmp_ge 100 d_Mo_cover_73 (by decide) (fun w => absurd w (nI_ge (by omega) (by omega))) (fun _ => ?_)
              refine ev_aload_n d_Mo_cover_76 rfl rfl ?_
              refine em_getA (i := 33) hG d_Mo_cover_77 fo_Mo_74 rfl ?_
              refine ev_iload d_Mo_cover_80 rfl ?_
              refine em_zald (i := 33) (N := 1200) hG d_Mo_cover_82 rfl rfl (by decide) (by omega) (by (repeat (first | apply va_up_mt (h := by decide) | apply va_up_ms | apply pk_ut (h := by omega) | apply pk_uLt (h := by omega) | exact pk_us | exact pk_uLs | assumption)); all_goals rfl) ?_
              refine ev_if_eq 92 d_Mo_cover_83 (by decide) (fun hb => ?_) (fun hb => ?_)
              · rw [if_pos hb] at hacc
                refine ev_iload_n d_Mo_cover_92 rfl rfl ?_
                refine ev_istore_n d_Mo_cover_93 rfl (by decide) ?_
                refine ev_iinc d_Mo_cover_94 rfl (by first | exact nI_1 _ | rfl) (by decide) ?_
                refine ev_goto 63 d_Mo_cover_97 (by decide) ?_
                exact ih (s + 1) acc (by omega) (by omega) hacc
              · rw [if_neg hb] at hacc
                refine ev_iload_n d_Mo_cover_86 rfl rfl ?_
                refine ev_iconst (v := 1) d_Mo_cover_87 (by decide) ?_
                refine ev_iadd d_Mo_cover_88 ?_
                rw [nI_1]
                refine ev_goto 93 d_Mo_cover_89 (by decide) ?_
                refine ev_istore_n d_Mo_cover_93 rfl (by decide) ?_
                refine ev_iinc d_Mo_cover_94 rfl (by first | exact nI_1 _ | rfl) (by decide) ?_
                refine ev_goto 63 d_Mo_cover_97 (by decide) ?_
                exact ih (s + 1) (acc + 1) (by omega) (by omega) (by omega)
          refine ev_iload_n d_Mo_cover_29 rfl rfl ?_
          refine ev_iconst (v := 1) d_Mo_cover_30 (by decide) ?_
          refine ev_icmp_ne 49 d_Mo_cover_31 (by decide) (fun _ => ?_) (fun w => absurd w (by decide))
          refine ev_iconst (v := 0) d_Mo_cover_49 (by decide) ?_
          refine ev_istore_n d_Mo_cover_50 rfl (by decide) ?_
          refine ev_iload_n d_Mo_cover_51 rfl rfl ?_
          refine ev_if_ne 100 d_Mo_cover_52 (by decide) (fun w => absurd rfl w) (fun _ => ?_)
          refine ev_aload_n d_Mo_cover_55 rfl rfl ?_
          refine em_getA (i := 17) hG d_Mo_cover_56 fo_Mo_28 rfl ?_
          refine ev_iload_n d_Mo_cover_59 rfl rfl ?_
          refine em_iald (i := 17) (N := 14) hG d_Mo_cover_60 rfl rfl (by decide) (by omega) (by (repeat (first | apply va_up_mt (h := by decide) | apply va_up_ms | apply pk_ut (h := by omega) | apply pk_uLt (h := by omega) | exact pk_us | exact pk_uLs | assumption)); all_goals rfl) ?_
          refine ev_istore d_Mo_cover_61 (by decide) ?_
          exact loop (zBe z j - zFi z j) (zFi z j) 0 (by omega) (by omega) (by rw [hE, Nat.zero_add])
      · -- the tests that name a value
        have k1 : k = 1 := t3
        subst k1
        clear t3
        have badv : ∀ (G : pm_G), (f < 1 ∨ nI (zVn z) < f) → mo_at G0 a A (va_up I 0 0) J M W G → ev_W l X m_Mo_cover 1 0 0 (fun (r : Option Value) (G' : pm_G) => (((1 : Int32) = 0 ∧ (((f < 1 ∨ nI (zTn z) < f) ∧ r = some (.int (-1))) ∨ ∃ j', j' < zTn z ∧ f = nI (j' + 1) ∧ r = some (.int (nI (pl_cb sd (zBe z j' - zFi z j') (zFi z j')))))) ∨ ((1 : Int32) = 1 ∧ r = some (.int (if f < 1 ∨ nI (zVn z) < f then -1 else nI (pl_ct td (f) (zTn z))))) ∨ ((1 : Int32) = 2 ∧ r = some (.int (nI (tr_sum D rc)))) ∨ ((1 : Int32) ≠ 0 ∧ (1 : Int32) ≠ 1 ∧ (1 : Int32) ≠ 2 ∧ r = some (.int (-2)))) ∧ mo_at G0 a A (va_up I 0 0) J M W G') 0 0 47 [(0, .ref a), (1, .int 1), (2, .int f)] [] G := by
          intro G w hG
          refine ev_iconst (v := -1) d_Mo_cover_47 (by decide) ?_
          exact ev_iret d_Mo_cover_48 rfl (⟨Or.inr (Or.inl ⟨rfl, by rw [if_pos w]⟩), hG⟩)
        refine ev_iload_n d_Mo_cover_17 rfl rfl ?_
        refine ev_if_ne 29 d_Mo_cover_18 (by decide) (fun _ => ?_) (fun w => absurd w (by decide))
        refine ev_iload_n d_Mo_cover_29 rfl rfl ?_
        refine ev_iconst (v := 1) d_Mo_cover_30 (by decide) ?_
        refine ev_icmp_ne 49 d_Mo_cover_31 (by decide) (fun w => absurd rfl w) (fun _ => ?_)
        refine ev_iload_n d_Mo_cover_34 rfl rfl ?_
        refine ev_iconst (v := 1) d_Mo_cover_35 (by decide) ?_
        refine ev_icmp_lt 47 d_Mo_cover_36 (by decide) (fun h3 => ?_) (fun h3 => ?_)
        · exact badv G (Or.inl h3) hG
        · refine ev_iload_n d_Mo_cover_39 rfl rfl ?_
          refine ev_aload_n d_Mo_cover_40 rfl rfl ?_
          refine em_getI (i := 11) hG d_Mo_cover_41 fo_Mo_157 rfl (by (repeat (first | apply va_up_t (h := by decide) | apply mo_w_t (h5 := by decide) (h7 := by decide) (h8 := by decide) | exact va_up_s | exact mo_w_5 | exact mo_w_7 | exact mo_w_8 | assumption)); all_goals rfl) ?_
          by_cases h4 : nI (zVn z) < f
          · refine ev_icmp_le 49 d_Mo_cover_44 (by decide) (fun w => absurd h4 (Int32.not_lt.mpr w)) (fun _ => ?_)
            exact badv G (Or.inr h4) hG
          · refine ev_icmp_le 49 d_Mo_cover_44 (by decide) (fun _ => ?_) (fun w => absurd (Int32.not_le.mp w) h4)
            have hfv : ¬ (f < 1 ∨ nI (zVn z) < f) := fun w => w.elim h3 h4
            obtain ⟨v, v1, rfl⟩ := ix_of hfv (by omega)
            have loop : ∀ (m i : Nat), i + m = zTn z → ev_W l X m_Mo_cover 1 0 0 (fun (r : Option Value) (G' : pm_G) => (((1 : Int32) = 0 ∧ (((nI (v + 1) < 1 ∨ nI (zTn z) < nI (v + 1)) ∧ r = some (.int (-1))) ∨ ∃ j', j' < zTn z ∧ nI (v + 1) = nI (j' + 1) ∧ r = some (.int (nI (pl_cb sd (zBe z j' - zFi z j') (zFi z j')))))) ∨ ((1 : Int32) = 1 ∧ r = some (.int (if nI (v + 1) < 1 ∨ nI (zVn z) < nI (v + 1) then -1 else nI (pl_ct td (nI (v + 1)) (zTn z))))) ∨ ((1 : Int32) = 2 ∧ r = some (.int (nI (tr_sum D rc)))) ∨ ((1 : Int32) ≠ 0 ∧ (1 : Int32) ≠ 1 ∧ (1 : Int32) ≠ 2 ∧ r = some (.int (-2)))) ∧ mo_at G0 a A (va_up I 0 0) J M W G') 0 0 108 [(0, .ref a), (1, .int 1), (2, .int (nI (v + 1))), (3, .int (nI (pl_ct td (nI (v + 1)) i))), (4, .int (nI (i + 1)))] [] G := by
              intro m
              induction m with
              | zero =>
                intro i hi
                refine ev_iload d_Mo_cover_108 rfl ?_
                refine ev_aload_n d_Mo_cover_110 rfl rfl ?_
                refine em_getI (i := 14) hG d_Mo_cover_111 fo_Mo_171 rfl (by (repeat (first | apply va_up_t (h := by decide) | apply mo_w_t (h5 := by decide) (h7 := by decide) (h8 := by decide) | exact va_up_s | exact mo_w_5 | exact mo_w_7 | exact mo_w_8 | assumption)); all_goals rfl) ?_
                refine ev_icmp_gt 136 d_Mo_cover_114 (by decide) (fun _ => ?_) (fun w => absurd (nI_lt (by omega) (by omega)) w)
                refine ev_iload_n d_Mo_cover_136 rfl rfl ?_
                refine ev_iconst (v := 2) d_Mo_cover_137 (by decide) ?_
                refine ev_icmp_ne 169 d_Mo_cover_138 (by decide) (fun _ => ?_) (fun w => absurd w (by decide))
                refine ev_iload_n d_Mo_cover_169 rfl rfl ?_
                exact ev_iret d_Mo_cover_170 rfl (⟨Or.inr (Or.inl ⟨rfl, by rw [if_neg hfv, show i = zTn z by omega]⟩), hG⟩)
              | succ m ih =>
                intro i hi
                have ih2 := ih (i + 1) (by omega)
                rw [pl_ct, htd i (by omega)] at ih2
                have hpl2 : mpl_ok z c M W := hpl
                refine ev_iload d_Mo_cover_108 rfl ?_
                refine ev_aload_n d_Mo_cover_110 rfl rfl ?_
                refine em_getI (i := 14) hG d_Mo_cover_111 fo_Mo_171 rfl (by (repeat (first | apply va_up_t (h := by decide) | apply mo_w_t (h5 := by decide) (h7 := by decide) (h8 := by decide) | exact va_up_s | exact mo_w_5 | exact mo_w_7 | exact mo_w_8 | assumption)); all_goals rfl) ?_
                refine ev_icmp_gt 136 d_Mo_cover_114 (by decide) (fun w => absurd w (nI_nlt (by omega) (by omega))) (fun _ => ?_)
                refine ev_iload_n d_Mo_cover_117 rfl rfl ?_
                refine ev_aload_n d_Mo_cover_118 rfl rfl ?_
                refine ev_iload d_Mo_cover_119 rfl ?_
                refine ev_callV1 d_Mo_cover_121 ck_Mo_namedBy ml_Mo_308 im_Mo_namedBy se_Mo_namedBy rfl hG.1 (c_Mo_namedBy (c := c) hz hpm (show i < zTn z by omega) hpl2 hG) (by omega) (Nat.le_of_ble_eq_true rfl) (by omega) (by omega) ?_
                rintro _ _ ⟨rfl, rfl⟩
                refine ev_iload_n d_Mo_cover_124 rfl rfl ?_
                refine ev_ishr d_Mo_cover_125 ?_
                refine ev_iconst (v := 1) d_Mo_cover_126 (by decide) ?_
                refine ev_iand d_Mo_cover_127 ?_
                rw [bit_shr (by omega)]
                by_cases hb : zNm z i &&& (1 : Int32) <<< (nI (v + 1) &&& 31) = 0
                · rw [if_pos hb] at ih2 ⊢
                  refine ev_iadd d_Mo_cover_128 ?_
                  rw [show ∀ n : Nat, nI n + 0 = nI n from fun n => nI_add n 0]
                  refine ev_istore_n d_Mo_cover_129 rfl (by decide) ?_
                  refine ev_iinc d_Mo_cover_130 rfl (by first | exact nI_1 _ | rfl) (by decide) ?_
                  refine ev_goto 108 d_Mo_cover_133 (by decide) ?_
                  exact ih2
                · rw [if_neg hb] at ih2 ⊢
                  refine ev_iadd d_Mo_cover_128 ?_
                  rw [nI_1]
                  refine ev_istore_n d_Mo_cover_129 rfl (by decide) ?_
                  refine ev_iinc d_Mo_cover_130 rfl (by first | exact nI_1 _ | rfl) (by decide) ?_
                  refine ev_goto 108 d_Mo_cover_133 (by decide) ?_
                  exact ih2
            refine ev_iconst (v := 0) d_Mo_cover_49 (by decide) ?_
            refine ev_istore_n d_Mo_cover_50 rfl (by decide) ?_
            refine ev_iload_n d_Mo_cover_51 rfl rfl ?_
            refine ev_if_ne 100 d_Mo_cover_52 (by decide) (fun _ => ?_) (fun w => absurd w (by decide))
            refine ev_iload_n d_Mo_cover_100 rfl rfl ?_
            refine ev_iconst (v := 1) d_Mo_cover_101 (by decide) ?_
            refine ev_icmp_ne 136 d_Mo_cover_102 (by decide) (fun w => absurd rfl w) (fun _ => ?_)
            refine ev_iconst (v := 1) d_Mo_cover_105 (by decide) ?_
            refine ev_istore d_Mo_cover_106 (by decide) ?_
            exact loop (zTn z) 0 (by omega)
      · -- the rows of all runs
        have k2 : k = 2 := t3
        subst k2
        clear t3
        have loop : ∀ (m i : Nat), i + m = rc → ev_W l X m_Mo_cover 1 0 0 (fun (r : Option Value) (G' : pm_G) => (((2 : Int32) = 0 ∧ (((f < 1 ∨ nI (zTn z) < f) ∧ r = some (.int (-1))) ∨ ∃ j', j' < zTn z ∧ f = nI (j' + 1) ∧ r = some (.int (nI (pl_cb sd (zBe z j' - zFi z j') (zFi z j')))))) ∨ ((2 : Int32) = 1 ∧ r = some (.int (if f < 1 ∨ nI (zVn z) < f then -1 else nI (pl_ct td (f) (zTn z))))) ∨ ((2 : Int32) = 2 ∧ r = some (.int (nI (tr_sum D rc)))) ∨ ((2 : Int32) ≠ 0 ∧ (2 : Int32) ≠ 1 ∧ (2 : Int32) ≠ 2 ∧ r = some (.int (-2)))) ∧ mo_at G0 a A (va_up I 0 0) J M W G') 0 0 144 [(0, .ref a), (1, .int 2), (2, .int f), (3, .int (nI (tr_sum D i))), (4, .int (nI i))] [] G := by
          intro m
          induction m with
          | zero =>
            intro i hi
            refine ev_iload d_Mo_cover_144 rfl ?_
            refine ev_aload_n d_Mo_cover_146 rfl rfl ?_
            refine em_getI (i := 44) hG d_Mo_cover_147 fo_Mo_232 rfl (by (repeat (first | apply va_up_t (h := by decide) | apply mo_w_t (h5 := by decide) (h7 := by decide) (h8 := by decide) | exact va_up_s | exact mo_w_5 | exact mo_w_7 | exact mo_w_8 | assumption)); all_goals rfl) ?_
            refine ev_icmp_ge 169 d_Mo_cover_150 (by decide) (fun _ => ?_) (fun w => absurd (nI_le (by omega) (by omega)) w)
            refine ev_iload_n d_Mo_cover_169 rfl rfl ?_
            exact ev_iret d_Mo_cover_170 rfl (⟨Or.inr (Or.inr (Or.inl ⟨rfl, by rw [show i = rc by omega]⟩)), hG⟩)
          | succ m ih =>
            intro i hi
            have g45 := (hrw i (by omega)).2.1
            refine ev_iload d_Mo_cover_144 rfl ?_
            refine ev_aload_n d_Mo_cover_146 rfl rfl ?_
            refine em_getI (i := 44) hG d_Mo_cover_147 fo_Mo_232 rfl (by (repeat (first | apply va_up_t (h := by decide) | apply mo_w_t (h5 := by decide) (h7 := by decide) (h8 := by decide) | exact va_up_s | exact mo_w_5 | exact mo_w_7 | exact mo_w_8 | assumption)); all_goals rfl) ?_
            refine ev_icmp_ge 169 d_Mo_cover_150 (by decide) (fun w => absurd w (nI_ge (by omega) (by omega))) (fun _ => ?_)
            refine ev_iload_n d_Mo_cover_153 rfl rfl ?_
            refine ev_aload_n d_Mo_cover_154 rfl rfl ?_
            refine em_getA (i := 45) hG d_Mo_cover_155 fo_Mo_100 rfl ?_
            refine ev_iload d_Mo_cover_158 rfl ?_
            refine em_iald (i := 45) (N := 8) hG d_Mo_cover_160 rfl rfl (by decide) (by omega) (by (repeat (first | apply va_up_mt (h := by decide) | apply va_up_ms | apply pk_ut (h := by omega) | apply pk_uLt (h := by omega) | exact pk_us | exact pk_uLs | assumption)); all_goals rfl) ?_
            refine ev_iadd d_Mo_cover_161 ?_
            rw [nI_add]
            refine ev_istore_n d_Mo_cover_162 rfl (by decide) ?_
            refine ev_iinc d_Mo_cover_163 rfl (by first | exact nI_1 _ | rfl) (by decide) ?_
            refine ev_goto 144 d_Mo_cover_166 (by decide) ?_
            exact ih (i + 1) (by omega)
        refine ev_iload_n d_Mo_cover_17 rfl rfl ?_
        refine ev_if_ne 29 d_Mo_cover_18 (by decide) (fun _ => ?_) (fun w => absurd w (by decide))
        refine ev_iload_n d_Mo_cover_29 rfl rfl ?_
        refine ev_iconst (v := 1) d_Mo_cover_30 (by decide) ?_
        refine ev_icmp_ne 49 d_Mo_cover_31 (by decide) (fun _ => ?_) (fun w => absurd w (by decide))
        refine ev_iconst (v := 0) d_Mo_cover_49 (by decide) ?_
        refine ev_istore_n d_Mo_cover_50 rfl (by decide) ?_
        refine ev_iload_n d_Mo_cover_51 rfl rfl ?_
        refine ev_if_ne 100 d_Mo_cover_52 (by decide) (fun _ => ?_) (fun w => absurd w (by decide))
        refine ev_iload_n d_Mo_cover_100 rfl rfl ?_
        refine ev_iconst (v := 1) d_Mo_cover_101 (by decide) ?_
        refine ev_icmp_ne 136 d_Mo_cover_102 (by decide) (fun _ => ?_) (fun w => absurd w (by decide))
        refine ev_iload_n d_Mo_cover_136 rfl rfl ?_
        refine ev_iconst (v := 2) d_Mo_cover_137 (by decide) ?_
        refine ev_icmp_ne 169 d_Mo_cover_138 (by decide) (fun w => absurd rfl w) (fun _ => ?_)
        refine ev_iconst (v := 0) d_Mo_cover_141 (by decide) ?_
        refine ev_istore d_Mo_cover_142 (by decide) ?_
        exact loop rc 0 (by omega)
end MC
