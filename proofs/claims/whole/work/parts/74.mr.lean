/-! THE MODEL READS: findName, newName, named, operator -/
theorem nm_last {sg : Nat → Nat} : ∀ (m p a v : Nat), nm_k sg (m + 1) p a = some v → ∃ u, nm_k sg m p a = some u ∧ v = u * 27 + (sg (p + m) - 96) ∧ 97 ≤ sg (p + m) ∧ sg (p + m) ≤ 122 := by
  intro m
  induction m with
  | zero =>
    intro p a v h
    have hq := nm_not _ _ _ _ h p (Nat.le_refl _) (by omega)
    rw [nm_k, if_pos hq] at h
    cases h
    exact ⟨a, rfl, rfl, hq⟩
  | succ m ih =>
    intro p a v h
    have hq := nm_not _ _ _ _ h p (Nat.le_refl _) (by omega)
    rw [nm_k, if_pos hq] at h
    obtain ⟨u, u1, u2, u3⟩ := ih _ _ _ h
    rw [show p + 1 + m = p + (m + 1) by omega] at u2 u3
    exact ⟨u, by rw [nm_k, if_pos hq]; exact u1, u2, u3⟩
theorem nm_inj {sg : Nat → Nat} {p b : Nat} : ∀ (m m' v : Nat), nm_k sg m p 0 = some v → nm_k sg m' b 0 = some v → m = m' ∧ ∀ k, k < m → sg (p + k) = sg (b + k) := by
  intro m
  induction m with
  | zero =>
    intro m' v h h'
    cases h
    cases m' with
    | zero => exact ⟨rfl, fun k hk => by omega⟩
    | succ m' =>
      obtain ⟨u, u1, u2, u3⟩ := nm_last _ _ _ _ h'
      omega
  | succ m ih =>
    intro m' v h h'
    obtain ⟨u, u1, u2, u3⟩ := nm_last _ _ _ _ h
    cases m' with
    | zero => cases h'; omega
    | succ m' =>
      obtain ⟨y, y1, y2, y3⟩ := nm_last _ _ _ _ h'
      have e1 : u = y := by omega
      have e2 : sg (p + m) = sg (b + m') := by omega
      rw [← e1] at y1
      obtain ⟨z1, z2⟩ := ih m' u u1 y1
      refine ⟨by omega, fun k hk => ?_⟩
      by_cases q : k = m
      · rw [q, e2, z1]
      · exact z2 k (by omega)
theorem nm_cg {sg : Nat → Nat} : ∀ (m p b a : Nat), (∀ k, k < m → sg (p + k) = sg (b + k)) → nm_k sg m p a = nm_k sg m b a := by
  intro m
  induction m with
  | zero => intro p b a h; rfl
  | succ m ih =>
    intro p b a h
    have h0 := h 0 (by omega)
    rw [Nat.add_zero, Nat.add_zero] at h0
    rw [nm_k, nm_k, h0, ih (p + 1) (b + 1) _ (fun k hk => by have := h (k + 1) (by omega); rw [show p + 1 + k = p + (k + 1) by omega, show b + 1 + k = b + (k + 1) by omega]; exact this)]
theorem sl_ky {sg : Nat → Nat} {p q b f : Nat} (h1 : is_nm sg p q) (h2 : is_nm sg b f) : sl_eq sg p q b f ↔ ky sg p q = ky sg b f := by
  obtain ⟨v, v1, -⟩ := nm_all (sg := sg) (q - p) p 0 (fun j j1 j2 => h1.2.2 j j1 (by omega))
  obtain ⟨u, u1, -⟩ := nm_all (sg := sg) (f - b) b 0 (fun j j1 j2 => h2.2.2 j j1 (by omega))
  have e1 : ky sg p q = v := by rw [ky, if_pos h1.2.1, v1]; rfl
  have e2 : ky sg b f = u := by rw [ky, if_pos h2.2.1, u1]; rfl
  rw [e1, e2]
  constructor
  · rintro ⟨h3, h4⟩
    rw [h3, nm_cg _ p b 0 h4, u1] at v1
    cases v1; rfl
  · intro h
    rw [h] at v1
    obtain ⟨z1, z2⟩ := nm_inj _ _ _ v1 u1
    exact ⟨z1, fun k hk => z2 k (by omega)⟩
/-- the slices that bear the names with these keys -/
def nm_sl (sg : Nat → Nat) (n : Nat) (B F : Nat → Int32) (cnt : Nat) (key : Nat → Nat) : Prop := ∀ i, i < cnt → ∃ p q, B (i + 1) = nI p ∧ F (i + 1) = nI q ∧ p ≤ q ∧ q ≤ n ∧ is_nm sg p q ∧ ky sg p q = key i
theorem zvo_0 {vk : Nat → Nat} {key : Nat} : ∀ (m i : Nat), (∀ j, i ≤ j → j < i + m → vk j ≠ key) → zvo vk key m i = 0 := by
  intro m
  induction m with
  | zero => intro i h; rfl
  | succ m ih => intro i h; rw [zvo, if_neg (h i (Nat.le_refl _) (by omega))]; exact ih (i + 1) (fun j j1 j2 => h j (by omega) (by omega))
section MR
variable {l : Launch} {X : pm_X} {G G0 : pm_G} {a : Nat} {A : Nat → Nat} {I : Nat → Int32} {J : Nat → Int64} {M : Nat → Nat → Int32} {W : Nat → Nat → Int64} {sg : Nat → Nat} {p e n b f vn tn sn : Nat} {vk tk : Nat → Nat}
set_option maxHeartbeats 1000000 in
theorem c_Mo_findName (hG : mo_at G0 a A I J M W G) (hk : mk_ok sg M n) (h7 : I 7 = nI b) (h8 : I 8 = nI f) (hbf : b ≤ f) (hf : f ≤ n) (hn : n ≤ 4000) (h11 : I 11 = nI vn) (hv : vn ≤ 20) (hs : nm_sl sg n (M 12) (M 13) vn vk) (hm : is_nm sg b f) : cn_M l X m_Mo_findName 1 0 0 [.ref a] G (fun r G' => r = some (.int (nI (zvo vk (ky sg b f) vn 0))) ∧ G = G') := by
  refine cn_in rfl (Nat.le_of_ble_eq_true rfl) ?_
  have loop : ∀ (m i : Nat), i + m = vn → zvo vk (ky sg b f) vn 0 = zvo vk (ky sg b f) m i → ev_W l X m_Mo_findName 1 0 0 (fun r G' => r = some (.int (nI (zvo vk (ky sg b f) vn 0))) ∧ G = G') 0 0 2 [(0, .ref a), (1, .int (nI (i + 1)))] [] G := by
    intro m
    induction m with
    | zero =>
      intro i hi hz
      refine ev_iload_n d_Mo_findName_2 rfl rfl ?_
      refine ev_aload_n d_Mo_findName_3 rfl rfl ?_
      refine em_getI (i := 11) hG d_Mo_findName_4 fo_Mo_157 rfl (by (repeat (first | apply va_up_t (h := by decide) | apply mo_w_t (h5 := by decide) (h7 := by decide) (h8 := by decide) | assumption | exact va_up_s | exact mo_w_5 | exact mo_w_7 | exact mo_w_8)); all_goals rfl) ?_
      refine ev_icmp_gt 37 d_Mo_findName_7 (by decide) (fun hc => ?_) (fun hc => ?_)
      · refine ev_iconst (v := 0) d_Mo_findName_37 (by decide) ?_
        exact ev_iret d_Mo_findName_38 rfl (⟨by rw [hz]; rfl, rfl⟩)
      · exact absurd (nI_lt (by omega) (by omega)) hc
    | succ m ih =>
      intro i hi hz
      obtain ⟨p, q, s1, s2, s3, s4, s5, s6⟩ := hs i (by omega)
      refine ev_iload_n d_Mo_findName_2 rfl rfl ?_
      refine ev_aload_n d_Mo_findName_3 rfl rfl ?_
      refine em_getI (i := 11) hG d_Mo_findName_4 fo_Mo_157 rfl (by (repeat (first | apply va_up_t (h := by decide) | apply mo_w_t (h5 := by decide) (h7 := by decide) (h8 := by decide) | assumption | exact va_up_s | exact mo_w_5 | exact mo_w_7 | exact mo_w_8)); all_goals rfl) ?_
      refine ev_icmp_gt 37 d_Mo_findName_7 (by decide) (fun hc => ?_) (fun hc => ?_)
      · exact absurd hc (nI_nlt (by omega) (by omega))
      · refine ev_aload_n d_Mo_findName_10 rfl rfl ?_
        refine ev_aload_n d_Mo_findName_11 rfl rfl ?_
        refine em_getA (i := 12) hG d_Mo_findName_12 fo_Mo_16 rfl ?_
        refine ev_iload_n d_Mo_findName_15 rfl rfl ?_
        refine em_iald (i := 12) (N := 21) hG d_Mo_findName_16 rfl rfl (by decide) (by omega) (by (repeat (first | apply va_up_mt (h := by decide) | apply va_up_ms | apply pk_ut (h := by omega) | apply pk_uLt (h := by omega) | assumption | exact pk_us | exact pk_uLs)); all_goals rfl) ?_
        refine ev_aload_n d_Mo_findName_17 rfl rfl ?_
        refine em_getA (i := 13) hG d_Mo_findName_18 fo_Mo_19 rfl ?_
        refine ev_iload_n d_Mo_findName_21 rfl rfl ?_
        refine em_iald (i := 13) (N := 21) hG d_Mo_findName_22 rfl rfl (by decide) (by omega) (by (repeat (first | apply va_up_mt (h := by decide) | apply va_up_ms | apply pk_ut (h := by omega) | apply pk_uLt (h := by omega) | assumption | exact pk_us | exact pk_uLs)); all_goals rfl) ?_
        refine ev_callV2 d_Mo_findName_23 ck_Mo_same ml_Mo_160 im_Mo_same se_Mo_same rfl hG.1 (c_Mo_same (p := p) (q := q) hG hk h7 h8 hbf hf s3 s4 hn) (by omega) (Nat.le_of_ble_eq_true rfl) (by omega) (by omega) ?_
        rintro _ _ ⟨rfl, rfl⟩
        refine ev_if_eq 31 d_Mo_findName_26 (by decide) (fun hd => ?_) (fun hd => ?_)
        · have hd := cI_0 hd
          refine ev_iinc d_Mo_findName_31 rfl (by first | exact nI_1 _ | rfl) (by decide) ?_
          refine ev_goto 2 d_Mo_findName_34 (by decide) ?_
          refine ih (i + 1) (by omega) ?_
          rw [hz, zvo, if_neg (fun z => hd ((sl_ky s5 hm).mpr (s6.trans z)))]
        · have hd := cI_1 hd
          refine ev_iload_n d_Mo_findName_29 rfl rfl ?_
          exact ev_iret d_Mo_findName_30 rfl (⟨by rw [hz, zvo, if_pos (s6.symm.trans ((sl_ky s5 hm).mp hd))], rfl⟩)
  refine ev_iconst (v := 1) d_Mo_findName_0 (by decide) ?_
  refine ev_istore_n d_Mo_findName_1 rfl (by decide) ?_
  exact loop vn 0 (by omega) rfl
set_option maxHeartbeats 1000000 in
theorem c_Mo_newName (hG : mo_at G0 a A I J M W G) (hk : mk_ok sg M n) (h5 : I 5 = nI p) (h6 : I 6 = nI e) (hp : p ≤ e) (hen : e ≤ n) (hn : n ≤ 4000) (hb : b = (w_at sg e p).1) (hf : f = (w_at sg e p).2) (h11 : I 11 = nI vn) (hv : vn ≤ 20) (hs : nm_sl sg n (M 12) (M 13) vn vk) (h14 : I 14 = nI tn) (ht : tn ≤ 12) (hs2 : nm_sl sg n (M 15) (M 16) tn tk) : cn_M l X m_Mo_newName 2 0 0 [.ref a] G (fun r G' => r = some (.int (cI (is_nm sg b f ∧ ¬ ((∃ i, i < tn ∧ tk i = ky sg b f) ∨ 0 < zvo vk (ky sg b f) vn 0)))) ∧ mo_at G0 a A (mo_w I b f) J M W G') := by
  obtain ⟨w1, w2, w3, w4⟩ := w_at_b (sg := sg) hp
  refine cn_in rfl (Nat.le_of_ble_eq_true rfl) ?_
  refine ev_aload_n d_Mo_newName_0 rfl rfl ?_
  refine ev_callV0 d_Mo_newName_1 ck_Mo_next ml_Mo_146 im_Mo_next se_Mo_next rfl hG.1 (c_Mo_next hG (fun i hi => hk i (by omega)) h5 h6 hp (by omega)) (by omega) (Nat.le_of_ble_eq_true rfl) (by omega) (by omega) ?_
  rintro _ G ⟨rfl, hG⟩
  rw [← hb, ← hf] at *
  have h7 : mo_w I b f 7 = nI b := mo_w_7
  have h8 : mo_w I b f 8 = nI f := mo_w_8
  have h11 : mo_w I b f 11 = nI vn := Eq.trans (mo_w_n (by decide) (by decide) (by decide)) h11
  have h14 : mo_w I b f 14 = nI tn := Eq.trans (mo_w_n (by decide) (by decide) (by decide)) h14
  have bad : ¬ (is_nm sg b f ∧ ¬ ((∃ i, i < tn ∧ tk i = ky sg b f) ∨ 0 < zvo vk (ky sg b f) vn 0)) → ev_W l X m_Mo_newName 2 0 0 (fun r G' => r = some (.int (cI (is_nm sg b f ∧ ¬ ((∃ i, i < tn ∧ tk i = ky sg b f) ∨ 0 < zvo vk (ky sg b f) vn 0)))) ∧ mo_at G0 a A (mo_w I b f) J M W G') 0 0 21 [(0, .ref a)] [] G := by
    intro h
    refine ev_iconst (v := 0) d_Mo_newName_21 (by decide) ?_
    exact ev_zret d_Mo_newName_22 rfl rfl (⟨by rw [cI_f h], hG⟩)
  refine ev_if_eq 21 d_Mo_newName_4 (by decide) (fun h0 => ?_) (fun h0 => ?_)
  · exact bad (fun z => cI_0 h0 z.1.1)
  · refine ev_aload_n d_Mo_newName_7 rfl rfl ?_
    refine ev_callV0 d_Mo_newName_8 ck_Mo_isName ml_Mo_164 im_Mo_isName se_Mo_isName rfl hG.1 (c_Mo_isName hG hk h7 h8 w2 (by omega) hn) (by omega) (Nat.le_of_ble_eq_true rfl) (by omega) (by omega) ?_
    rintro _ _ ⟨rfl, rfl⟩
    refine ev_if_eq 21 d_Mo_newName_11 (by decide) (fun h1 => ?_) (fun h1 => ?_)
    · exact bad (fun z => cI_0 h1 z.1)
    · have h1 := cI_1 h1
      have zl := (zvo_le (vk := vk) (key := ky sg b f) vn 0).1
      refine ev_aload_n d_Mo_newName_14 rfl rfl ?_
      refine ev_callV0 d_Mo_newName_15 ck_Mo_findName ml_Mo_167 im_Mo_findName se_Mo_findName rfl hG.1 (c_Mo_findName hG hk h7 h8 w2 (by omega) hn h11 hv hs h1) (by omega) (Nat.le_of_ble_eq_true rfl) (by omega) (by omega) ?_
      rintro _ _ ⟨rfl, rfl⟩
      refine ev_if_le 23 d_Mo_newName_18 (by decide) (fun h2 => ?_) (fun h2 => ?_)
      · have h2 : ¬ 0 < zvo vk (ky sg b f) vn 0 := fun z => absurd h2 (nI_nle z (by omega))
        have loop : ∀ (m i : Nat), i + m = tn → (∀ j, j < i → tk j ≠ ky sg b f) → ev_W l X m_Mo_newName 2 0 0 (fun r G' => r = some (.int (cI (is_nm sg b f ∧ ¬ ((∃ i, i < tn ∧ tk i = ky sg b f) ∨ 0 < zvo vk (ky sg b f) vn 0)))) ∧ mo_at G0 a A (mo_w I b f) J M W G') 0 0 25 [(0, .ref a), (1, .int (nI (i + 1)))] [] G := by
          intro m
          induction m with
          | zero =>
            intro i hi hz
            refine ev_iload_n d_Mo_newName_25 rfl rfl ?_
            refine ev_aload_n d_Mo_newName_26 rfl rfl ?_
            refine em_getI (i := 14) hG d_Mo_newName_27 fo_Mo_171 rfl (by (repeat (first | apply va_up_t (h := by decide) | apply mo_w_t (h5 := by decide) (h7 := by decide) (h8 := by decide) | assumption | exact va_up_s | exact mo_w_5 | exact mo_w_7 | exact mo_w_8)); all_goals rfl) ?_
            refine ev_icmp_gt 60 d_Mo_newName_30 (by decide) (fun hc => ?_) (fun hc => ?_)
            · refine ev_iconst (v := 1) d_Mo_newName_60 (by decide) ?_
              refine ev_zret d_Mo_newName_61 rfl rfl ⟨?_, hG⟩
              rw [cI_t]
              refine ⟨h1, fun z => ?_⟩
              rcases z with ⟨j, j1, j2⟩ | z
              · exact hz j (by omega) j2
              · exact h2 z
            · exact absurd (nI_lt (by omega) (by omega)) hc
          | succ m ih =>
            intro i hi hz
            obtain ⟨p, q, s1, s2, s3, s4, s5, s6⟩ := hs2 i (by omega)
            refine ev_iload_n d_Mo_newName_25 rfl rfl ?_
            refine ev_aload_n d_Mo_newName_26 rfl rfl ?_
            refine em_getI (i := 14) hG d_Mo_newName_27 fo_Mo_171 rfl (by (repeat (first | apply va_up_t (h := by decide) | apply mo_w_t (h5 := by decide) (h7 := by decide) (h8 := by decide) | assumption | exact va_up_s | exact mo_w_5 | exact mo_w_7 | exact mo_w_8)); all_goals rfl) ?_
            refine ev_icmp_gt 60 d_Mo_newName_30 (by decide) (fun hc => ?_) (fun hc => ?_)
            · exact absurd hc (nI_nlt (by omega) (by omega))
            · refine ev_aload_n d_Mo_newName_33 rfl rfl ?_
              refine ev_aload_n d_Mo_newName_34 rfl rfl ?_
              refine em_getA (i := 15) hG d_Mo_newName_35 fo_Mo_22 rfl ?_
              refine ev_iload_n d_Mo_newName_38 rfl rfl ?_
              refine em_iald (i := 15) (N := 13) hG d_Mo_newName_39 rfl rfl (by decide) (by omega) (by (repeat (first | apply va_up_mt (h := by decide) | apply va_up_ms | apply pk_ut (h := by omega) | apply pk_uLt (h := by omega) | assumption | exact pk_us | exact pk_uLs)); all_goals rfl) ?_
              refine ev_aload_n d_Mo_newName_40 rfl rfl ?_
              refine em_getA (i := 16) hG d_Mo_newName_41 fo_Mo_25 rfl ?_
              refine ev_iload_n d_Mo_newName_44 rfl rfl ?_
              refine em_iald (i := 16) (N := 13) hG d_Mo_newName_45 rfl rfl (by decide) (by omega) (by (repeat (first | apply va_up_mt (h := by decide) | apply va_up_ms | apply pk_ut (h := by omega) | apply pk_uLt (h := by omega) | assumption | exact pk_us | exact pk_uLs)); all_goals rfl) ?_
              refine ev_callV2 d_Mo_newName_46 ck_Mo_same ml_Mo_160 im_Mo_same se_Mo_same rfl hG.1 (c_Mo_same (p := p) (q := q) hG hk h7 h8 w2 (by omega) s3 s4 hn) (by omega) (Nat.le_of_ble_eq_true rfl) (by omega) (by omega) ?_
              rintro _ _ ⟨rfl, rfl⟩
              refine ev_if_eq 54 d_Mo_newName_49 (by decide) (fun hd => ?_) (fun hd => ?_)
              · have hd := cI_0 hd
                refine ev_iinc d_Mo_newName_54 rfl (by first | exact nI_1 _ | rfl) (by decide) ?_
                refine ev_goto 25 d_Mo_newName_57 (by decide) ?_
                refine ih (i + 1) (by omega) (fun j hj => ?_)
                by_cases z : j = i
                · rw [z]; exact fun y => hd ((sl_ky s5 h1).mpr (s6.trans y))
                · exact hz j (by omega)
              · have hd := cI_1 hd
                refine ev_iconst (v := 0) d_Mo_newName_52 (by decide) ?_
                exact ev_zret d_Mo_newName_53 rfl rfl (⟨by rw [cI_f (fun z => z.2 (Or.inl ⟨i, by omega, s6.symm.trans ((sl_ky s5 h1).mp hd)⟩))], hG⟩)
        refine ev_iconst (v := 1) d_Mo_newName_23 (by decide) ?_
        refine ev_istore_n d_Mo_newName_24 rfl (by decide) ?_
        exact loop tn 0 (by omega) (fun j hj => by omega)
      · have h2 : 0 < zvo vk (ky sg b f) vn 0 := by
          rcases Nat.eq_zero_or_pos (zvo vk (ky sg b f) vn 0) with q | q
          · rw [q] at h2; exact absurd (by decide) h2
          · exact q
        exact bad (fun z => z.2 (Or.inr h2))
theorem upd0 {f : Nat → Int32} {k : Nat} : upd f k (f k) = f := by
  funext j
  by_cases q : j = k
  · rw [q, pk_us]
  · rw [pk_un q]
set_option maxHeartbeats 1000000 in
theorem c_Mo_named (hG : mo_at G0 a A I J M W G) (hk : mk_ok sg M n) (h5 : I 5 = nI p) (h6 : I 6 = nI e) (hp : p ≤ e) (hen : e ≤ n) (hn : n ≤ 4000) (hb : b = (w_at sg e p).1) (hf : f = (w_at sg e p).2) (h11 : I 11 = nI vn) (hv : vn ≤ 20) (hs : nm_sl sg n (M 12) (M 13) vn vk) (h23 : I 23 = nI sn) (hsn : sn < 1200) : cn_M l X m_Mo_named 2 0 0 [.ref a] G (fun r G' => r = some (.int (cI (0 < zvo vk (ky sg b f) vn 0))) ∧ ∃ y, mo_at G0 a A (mo_w I b f) J (va_up M 26 (upd (M 26) sn y)) W G' ∧ (0 < zvo vk (ky sg b f) vn 0 → y = nI (zvo vk (ky sg b f) vn 0))) := by
  obtain ⟨w1, w2, w3, w4⟩ := w_at_b (sg := sg) hp
  refine cn_in rfl (Nat.le_of_ble_eq_true rfl) ?_
  refine ev_aload_n d_Mo_named_0 rfl rfl ?_
  refine ev_callV0 d_Mo_named_1 ck_Mo_next ml_Mo_146 im_Mo_next se_Mo_next rfl hG.1 (c_Mo_next hG (fun i hi => hk i (by omega)) h5 h6 hp (by omega)) (by omega) (Nat.le_of_ble_eq_true rfl) (by omega) (by omega) ?_
  rintro _ G ⟨rfl, hG⟩
  rw [← hb, ← hf] at *
  have h7 : mo_w I b f 7 = nI b := mo_w_7
  have h8 : mo_w I b f 8 = nI f := mo_w_8
  have h11 : mo_w I b f 11 = nI vn := Eq.trans (mo_w_n (by decide) (by decide) (by decide)) h11
  have h23 : mo_w I b f 23 = nI sn := Eq.trans (mo_w_n (by decide) (by decide) (by decide)) h23
  have bad : ¬ is_nm sg b f → ev_W l X m_Mo_named 2 0 0 (fun r G' => r = some (.int (cI (0 < zvo vk (ky sg b f) vn 0))) ∧ ∃ y, mo_at G0 a A (mo_w I b f) J (va_up M 26 (upd (M 26) sn y)) W G' ∧ (0 < zvo vk (ky sg b f) vn 0 → y = nI (zvo vk (ky sg b f) vn 0))) 0 0 14 [(0, .ref a)] [] G := by
    intro h
    have h0 : ¬ 0 < zvo vk (ky sg b f) vn 0 := by
      rw [zvo_0]
      · omega
      · intro j j1 j2 z
        obtain ⟨p, q, s1, s2, s3, s4, s5, s6⟩ := hs j (by omega)
        exact h (ky_nm.mpr (by rw [← z, ← s6]; exact ky_nm.mp s5))
    refine ev_iconst (v := 0) d_Mo_named_14 (by decide) ?_
    exact ev_zret d_Mo_named_15 rfl rfl (⟨by rw [cI_f h0], M 26 sn, by rw [upd0, va_up0]; exact hG, fun z => absurd z h0⟩)
  refine ev_if_eq 14 d_Mo_named_4 (by decide) (fun h0 => ?_) (fun h0 => ?_)
  · exact bad (fun z => cI_0 h0 z.1)
  · refine ev_aload_n d_Mo_named_7 rfl rfl ?_
    refine ev_callV0 d_Mo_named_8 ck_Mo_isName ml_Mo_164 im_Mo_isName se_Mo_isName rfl hG.1 (c_Mo_isName hG hk h7 h8 w2 (by omega) hn) (by omega) (Nat.le_of_ble_eq_true rfl) (by omega) (by omega) ?_
    rintro _ _ ⟨rfl, rfl⟩
    refine ev_if_ne 16 d_Mo_named_11 (by decide) (fun h1 => ?_) (fun h1 => ?_)
    · have h1 := cI_1 h1
      have zl := (zvo_le (vk := vk) (key := ky sg b f) vn 0).1
      refine ev_aload_n d_Mo_named_16 rfl rfl ?_
      refine em_getA (i := 26) hG d_Mo_named_17 fo_Mo_53 rfl ?_
      refine ev_aload_n d_Mo_named_20 rfl rfl ?_
      refine em_getI (i := 23) hG d_Mo_named_21 fo_Mo_174 rfl (by (repeat (first | apply va_up_t (h := by decide) | apply mo_w_t (h5 := by decide) (h7 := by decide) (h8 := by decide) | assumption | exact va_up_s | exact mo_w_5 | exact mo_w_7 | exact mo_w_8)); all_goals rfl) ?_
      refine ev_aload_n d_Mo_named_24 rfl rfl ?_
      refine ev_callV0 d_Mo_named_25 ck_Mo_findName ml_Mo_167 im_Mo_findName se_Mo_findName rfl hG.1 (c_Mo_findName hG hk h7 h8 w2 (by omega) hn h11 hv hs h1) (by omega) (Nat.le_of_ble_eq_true rfl) (by omega) (by omega) ?_
      rintro _ _ ⟨rfl, rfl⟩
      refine em_iast (i := 26) (N := 1200) hG d_Mo_named_28 rfl rfl (by decide) (by omega) (fun G hG => ?_)
      refine ev_aload_n d_Mo_named_29 rfl rfl ?_
      refine em_getA (i := 26) hG d_Mo_named_30 fo_Mo_53 rfl ?_
      refine ev_aload_n d_Mo_named_33 rfl rfl ?_
      refine em_getI (i := 23) hG d_Mo_named_34 fo_Mo_174 rfl (by (repeat (first | apply va_up_t (h := by decide) | apply mo_w_t (h5 := by decide) (h7 := by decide) (h8 := by decide) | assumption | exact va_up_s | exact mo_w_5 | exact mo_w_7 | exact mo_w_8)); all_goals rfl) ?_
      refine em_iald (i := 26) (N := 1200) hG d_Mo_named_37 rfl rfl (by decide) (by omega) (by (repeat (first | apply va_up_mt (h := by decide) | apply va_up_ms | apply pk_ut (h := by omega) | apply pk_uLt (h := by omega) | assumption | exact pk_us | exact pk_uLs)); all_goals rfl) ?_
      refine ev_if_le 45 d_Mo_named_38 (by decide) (fun h2 => ?_) (fun h2 => ?_)
      · have h2 : ¬ 0 < zvo vk (ky sg b f) vn 0 := fun z => absurd h2 (nI_nle z (by omega))
        refine ev_iconst (v := 0) d_Mo_named_45 (by decide) ?_
        exact ev_zret d_Mo_named_46 rfl rfl (⟨by rw [cI_f h2], _, hG, fun z => absurd z h2⟩)
      · have h2 : 0 < zvo vk (ky sg b f) vn 0 := by
          rcases Nat.eq_zero_or_pos (zvo vk (ky sg b f) vn 0) with q | q
          · rw [q] at h2; exact absurd (by decide) h2
          · exact q
        refine ev_iconst (v := 1) d_Mo_named_41 (by decide) ?_
        refine ev_goto 46 d_Mo_named_42 (by decide) ?_
        exact ev_zret d_Mo_named_46 rfl rfl (⟨by rw [cI_t h2], _, hG, fun _ => rfl⟩)
    · exact bad (cI_0 h1)
set_option maxHeartbeats 1000000 in
theorem c_Mo_operator (hG : mo_at G0 a A I J M W G) (hk : mk_ok sg M e) (h5 : I 5 = nI p) (h6 : I 6 = nI e) (hp : p ≤ e) (he : e ≤ 4000) (hb : b = (w_at sg e p).1) (hf : f = (w_at sg e p).2) (h23 : I 23 = nI sn) (hsn : sn < 1200) : cn_M l X m_Mo_operator 1 0 0 [.ref a] G (fun r G' => r = some (.int (cI (op_k sg b f ≠ 0))) ∧ ∃ y, mo_at G0 a A (mo_w I b f) J (va_up M 29 (upd (M 29) sn y)) W G' ∧ (op_k sg b f ≠ 0 → y = op_k sg b f)) := by
  obtain ⟨w1, w2, w3, w4⟩ := w_at_b (sg := sg) hp
  refine cn_in rfl (Nat.le_of_ble_eq_true rfl) ?_
  refine ev_aload_n d_Mo_operator_0 rfl rfl ?_
  refine ev_callV0 d_Mo_operator_1 ck_Mo_next ml_Mo_146 im_Mo_next se_Mo_next rfl hG.1 (c_Mo_next hG hk h5 h6 hp he) (by omega) (Nat.le_of_ble_eq_true rfl) (by omega) (by omega) ?_
  rintro _ G ⟨rfl, hG⟩
  rw [← hb, ← hf] at *
  have h7 : mo_w I b f 7 = nI b := mo_w_7
  have h8 : mo_w I b f 8 = nI f := mo_w_8
  have h23 : mo_w I b f 23 = nI sn := Eq.trans (mo_w_n (by decide) (by decide) (by decide)) h23
  have bad : ¬ f - b = 1 → ev_W l X m_Mo_operator 1 0 0 (fun r G' => r = some (.int (cI (op_k sg b f ≠ 0))) ∧ ∃ y, mo_at G0 a A (mo_w I b f) J (va_up M 29 (upd (M 29) sn y)) W G' ∧ (op_k sg b f ≠ 0 → y = op_k sg b f)) 0 0 20 [(0, .ref a)] [] G := by
    intro h
    have h0 : ¬ op_k sg b f ≠ 0 := fun z => z (by rw [op_k, if_neg (fun y => h y.1)])
    refine ev_iconst (v := 0) d_Mo_operator_20 (by decide) ?_
    exact ev_zret d_Mo_operator_21 rfl rfl (⟨by rw [cI_f h0], M 29 sn, by rw [upd0, va_up0]; exact hG, fun z => absurd z h0⟩)
  refine ev_if_eq 20 d_Mo_operator_4 (by decide) (fun h0 => ?_) (fun h0 => ?_)
  · exact bad (fun z => cI_0 h0 (by omega))
  · have h0 := cI_1 h0
    have hk1 := (hk b (by omega)).1
    have hk2 := (hk b (by omega)).2
    refine ev_aload_n d_Mo_operator_7 rfl rfl ?_
    refine em_getI (i := 8) hG d_Mo_operator_8 fo_Mo_143 rfl (by (repeat (first | apply va_up_t (h := by decide) | apply mo_w_t (h5 := by decide) (h7 := by decide) (h8 := by decide) | assumption | exact va_up_s | exact mo_w_5 | exact mo_w_7 | exact mo_w_8)); all_goals rfl) ?_
    refine ev_aload_n d_Mo_operator_11 rfl rfl ?_
    refine em_getI (i := 7) hG d_Mo_operator_12 fo_Mo_140 rfl (by (repeat (first | apply va_up_t (h := by decide) | apply mo_w_t (h5 := by decide) (h7 := by decide) (h8 := by decide) | assumption | exact va_up_s | exact mo_w_5 | exact mo_w_7 | exact mo_w_8)); all_goals rfl) ?_
    refine ev_isub d_Mo_operator_15 ?_
    rw [pk_sub w2]
    refine ev_iconst (v := 1) d_Mo_operator_16 (by decide) ?_
    refine ev_icmp_eq 22 d_Mo_operator_17 (by decide) (fun h1 => ?_) (fun h1 => ?_)
    · have h1 : f - b = 1 := (nI_eq (by omega) (b := 1) (by omega)).mp h1
      refine ev_aload_n d_Mo_operator_22 rfl rfl ?_
      refine em_getA (i := 29) hG d_Mo_operator_23 fo_Mo_62 rfl ?_
      refine ev_aload_n d_Mo_operator_26 rfl rfl ?_
      refine em_getI (i := 23) hG d_Mo_operator_27 fo_Mo_174 rfl (by (repeat (first | apply va_up_t (h := by decide) | apply mo_w_t (h5 := by decide) (h7 := by decide) (h8 := by decide) | assumption | exact va_up_s | exact mo_w_5 | exact mo_w_7 | exact mo_w_8)); all_goals rfl) ?_
      refine ev_aload_n d_Mo_operator_30 rfl rfl ?_
      refine em_getA (i := 4) hG d_Mo_operator_31 fo_Mo_13 rfl ?_
      refine ev_aload_n d_Mo_operator_34 rfl rfl ?_
      refine em_getI (i := 7) hG d_Mo_operator_35 fo_Mo_140 rfl (by (repeat (first | apply va_up_t (h := by decide) | apply mo_w_t (h5 := by decide) (h7 := by decide) (h8 := by decide) | assumption | exact va_up_s | exact mo_w_5 | exact mo_w_7 | exact mo_w_8)); all_goals rfl) ?_
      refine em_iald (i := 4) (N := 4000) hG d_Mo_operator_38 rfl rfl (by decide) (by omega) (by (repeat (first | apply va_up_mt (h := by decide) | apply va_up_ms | apply pk_ut (h := by omega) | apply pk_uLt (h := by omega) | assumption | exact pk_us | exact pk_uLs)); all_goals rfl) ?_
      refine em_iast (i := 29) (N := 1200) hG d_Mo_operator_39 rfl rfl (by decide) (by omega) (fun G hG => ?_)
      refine ev_aload_n d_Mo_operator_40 rfl rfl ?_
      refine em_getA (i := 29) hG d_Mo_operator_41 fo_Mo_62 rfl ?_
      refine ev_aload_n d_Mo_operator_44 rfl rfl ?_
      refine em_getI (i := 23) hG d_Mo_operator_45 fo_Mo_174 rfl (by (repeat (first | apply va_up_t (h := by decide) | apply mo_w_t (h5 := by decide) (h7 := by decide) (h8 := by decide) | assumption | exact va_up_s | exact mo_w_5 | exact mo_w_7 | exact mo_w_8)); all_goals rfl) ?_
      refine em_iald (i := 29) (N := 1200) hG d_Mo_operator_48 rfl rfl (by decide) (by omega) (by (repeat (first | apply va_up_mt (h := by decide) | apply va_up_ms | apply pk_ut (h := by omega) | apply pk_uLt (h := by omega) | assumption | exact pk_us | exact pk_uLs)); all_goals rfl) ?_
      refine ev_bipush (v := 61) d_Mo_operator_49 (by decide) ?_
      have yes : (sg b = 61 ∨ sg b = 60 ∨ sg b = 62 ∨ sg b = 33) → ev_W l X m_Mo_operator 1 0 0 (fun r G' => r = some (.int (cI (op_k sg b f ≠ 0))) ∧ ∃ y, mo_at G0 a A (mo_w I b f) J (va_up M 29 (upd (M 29) sn y)) W G' ∧ (op_k sg b f ≠ 0 → y = op_k sg b f)) 0 0 96 [(0, .ref a)] [] G := by
        intro h
        have e1 : op_k sg b f = nI (sg b) := by rw [op_k, if_pos ⟨h1, h⟩]
        have e2 : op_k sg b f ≠ 0 := by rw [e1]; exact nI_ne0 (by omega) (by omega)
        refine ev_iconst (v := 1) d_Mo_operator_96 (by decide) ?_
        refine ev_goto 101 d_Mo_operator_97 (by decide) ?_
        exact ev_zret d_Mo_operator_101 rfl rfl (⟨by rw [cI_t e2], _, hG, fun _ => e1.symm⟩)
      refine ev_icmp_eq 96 d_Mo_operator_51 (by decide) (fun c1 => ?_) (fun c1 => ?_)
      · exact yes (Or.inl ((nI_eq (by omega) (b := 61) (by omega)).mp c1))
      · have c1 : ¬ sg b = 61 := fun z => c1 (by rw [z]; rfl)
        refine ev_aload_n d_Mo_operator_54 rfl rfl ?_
        refine em_getA (i := 29) hG d_Mo_operator_55 fo_Mo_62 rfl ?_
        refine ev_aload_n d_Mo_operator_58 rfl rfl ?_
        refine em_getI (i := 23) hG d_Mo_operator_59 fo_Mo_174 rfl (by (repeat (first | apply va_up_t (h := by decide) | apply mo_w_t (h5 := by decide) (h7 := by decide) (h8 := by decide) | assumption | exact va_up_s | exact mo_w_5 | exact mo_w_7 | exact mo_w_8)); all_goals rfl) ?_
        refine em_iald (i := 29) (N := 1200) hG d_Mo_operator_62 rfl rfl (by decide) (by omega) (by (repeat (first | apply va_up_mt (h := by decide) | apply va_up_ms | apply pk_ut (h := by omega) | apply pk_uLt (h := by omega) | assumption | exact pk_us | exact pk_uLs)); all_goals rfl) ?_
        refine ev_bipush (v := 60) d_Mo_operator_63 (by decide) ?_
        refine ev_icmp_eq 96 d_Mo_operator_65 (by decide) (fun c2 => ?_) (fun c2 => ?_)
        · exact yes (Or.inr (Or.inl ((nI_eq (by omega) (b := 60) (by omega)).mp c2)))
        · have c2 : ¬ sg b = 60 := fun z => c2 (by rw [z]; rfl)
          refine ev_aload_n d_Mo_operator_68 rfl rfl ?_
          refine em_getA (i := 29) hG d_Mo_operator_69 fo_Mo_62 rfl ?_
          refine ev_aload_n d_Mo_operator_72 rfl rfl ?_
          refine em_getI (i := 23) hG d_Mo_operator_73 fo_Mo_174 rfl (by (repeat (first | apply va_up_t (h := by decide) | apply mo_w_t (h5 := by decide) (h7 := by decide) (h8 := by decide) | assumption | exact va_up_s | exact mo_w_5 | exact mo_w_7 | exact mo_w_8)); all_goals rfl) ?_
          refine em_iald (i := 29) (N := 1200) hG d_Mo_operator_76 rfl rfl (by decide) (by omega) (by (repeat (first | apply va_up_mt (h := by decide) | apply va_up_ms | apply pk_ut (h := by omega) | apply pk_uLt (h := by omega) | assumption | exact pk_us | exact pk_uLs)); all_goals rfl) ?_
          refine ev_bipush (v := 62) d_Mo_operator_77 (by decide) ?_
          refine ev_icmp_eq 96 d_Mo_operator_79 (by decide) (fun c3 => ?_) (fun c3 => ?_)
          · exact yes (Or.inr (Or.inr (Or.inl ((nI_eq (by omega) (b := 62) (by omega)).mp c3))))
          · have c3 : ¬ sg b = 62 := fun z => c3 (by rw [z]; rfl)
            refine ev_aload_n d_Mo_operator_82 rfl rfl ?_
            refine em_getA (i := 29) hG d_Mo_operator_83 fo_Mo_62 rfl ?_
            refine ev_aload_n d_Mo_operator_86 rfl rfl ?_
            refine em_getI (i := 23) hG d_Mo_operator_87 fo_Mo_174 rfl (by (repeat (first | apply va_up_t (h := by decide) | apply mo_w_t (h5 := by decide) (h7 := by decide) (h8 := by decide) | assumption | exact va_up_s | exact mo_w_5 | exact mo_w_7 | exact mo_w_8)); all_goals rfl) ?_
            refine em_iald (i := 29) (N := 1200) hG d_Mo_operator_90 rfl rfl (by decide) (by omega) (by (repeat (first | apply va_up_mt (h := by decide) | apply va_up_ms | apply pk_ut (h := by omega) | apply pk_uLt (h := by omega) | assumption | exact pk_us | exact pk_uLs)); all_goals rfl) ?_
            refine ev_bipush (v := 33) d_Mo_operator_91 (by decide) ?_
            refine ev_icmp_ne 100 d_Mo_operator_93 (by decide) (fun c4 => ?_) (fun c4 => ?_)
            · have c4 : ¬ sg b = 33 := fun z => c4 (by rw [z]; rfl)
              have h0 : ¬ op_k sg b f ≠ 0 := fun z => z (by rw [op_k, if_neg (fun y => y.2.elim c1 (fun y => y.elim c2 (fun y => y.elim c3 c4)))])
              refine ev_iconst (v := 0) d_Mo_operator_100 (by decide) ?_
              exact ev_zret d_Mo_operator_101 rfl rfl (⟨by rw [cI_f h0], _, hG, fun z => absurd z h0⟩)
            · exact yes (Or.inr (Or.inr (Or.inr ((nI_eq (by omega) (b := 33) (by omega)).mp c4))))
    · exact bad (fun z => h1 (by rw [z]; rfl))
end MR
