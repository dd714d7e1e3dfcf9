/-! THE MODEL READS: block, step -/
theorem bhI_s {a : Nat} : bhI (a + 1) = nI a := by
  rw [bhI, if_neg (by omega)]
  rfl
theorem bhI_neg {o : Option Nat} (h : ∀ a, o = some a → a < 2 ^ 30) : bhI (o.elim 0 (· + 1)) < 0 ↔ o = none := by
  cases o with
  | none => exact ⟨fun _ => rfl, fun _ => by decide⟩
  | some a =>
    have e1 : bhI ((some a).elim 0 (· + 1)) = nI a := bhI_s
    rw [e1]
    exact ⟨fun q => absurd q (nI_pos (by have := h a rfl; omega)), fun q => by cases q⟩
theorem i64_i32 {x : Int32} : x.toInt64.toInt32 = x := by
  apply Int32.toInt_inj.mp
  rw [Int64.toInt_toInt32, Int32.toInt_toInt64, Int.bmod_eq_of_le (by have := Int32.le_toInt x; omega) (by have := Int32.toInt_lt x; omega)]
theorem ms_7 {M : Nat → Nat → Int32} {W : Nat → Nat → Int64} {c i fc nl : Nat} {li v : Int32} {nf : Nat → Int32} (h24 : M 24 i = 6) (h25 : M 25 i = li) (h26 : M 26 i = v) (h30 : M 30 i = nI nl) (h32 : M 32 i = nI fc) (hc : fc + nl ≤ c) (hW : ∀ j, j < nl → W 35 (fc + j) = (nf j).toInt64) : ms_ok M W c i (sf_D 7 li v 0 0 0) nl nf := ⟨h24, h25, h26, fun (q : (7 : Int32) = 1 ∨ (7 : Int32) = 2 ∨ (7 : Int32) = 3 ∨ (7 : Int32) = 4 ∨ (7 : Int32) = 5) => absurd q (by decide), fun (q : (7 : Int32) = 2 ∨ (7 : Int32) = 3 ∨ (7 : Int32) = 5) => absurd q (by decide), fun (q : (7 : Int32) = 3 ∨ (7 : Int32) = 4) => absurd q (by decide), fun (q : (7 : Int32) = 6) => absurd q (by decide), fun _ => ⟨h30, fc, h32, hc, hW⟩⟩
/-- t numbers of a cases line are taken -/
def cs_J (sg : Nat → Nat) (s e n c : Nat) (z : pz) (I : Nat → Int32) (J : Nat → Int64) (M : Nat → Nat → Int32) (W : Nat → Nat → Int64) (t : Nat) (I' : Nat → Int32) (J' : Nat → Int64) (M' : Nat → Nat → Int32) (W' : Nat → Nat → Int64) : Prop :=
  mp_fr I I' J J' M M' ∧ sn_fr (zSn z) M M' ∧ I' 11 = I 11 ∧ I' 14 = I 14 ∧ I' 23 = I 23 ∧ I' 36 = I 36 ∧ I' 34 = nI (c + t) ∧ M' 24 (zSn z) = 6 ∧ M' 25 (zSn z) = nI n ∧ M' 26 (zSn z) = nI (w_v sg s e z) ∧ M' 30 (zSn z) = nI t ∧ M' 32 (zSn z) = nI c ∧ M' 31 = M 31 ∧ M' 33 = M 33 ∧ M' 18 = M 18 ∧ sw_fr (zSn z) c W W' ∧ (∀ j, j < t → W' 35 (c + j) = (w_num sg s e (j + 2)).toInt64) ∧ (∀ j, j < t → w_num sg s e (j + 2) ≠ -1000000) ∧ wx sg s e (t + 1) ∧ t ≤ 10 ∧ 2 * (c + t) ≤ (w_w sg s e (t + 1)).2
theorem cs_J.w {sg : Nat → Nat} {s e n c : Nat} {z : pz} {I : Nat → Int32} {J : Nat → Int64} {M : Nat → Nat → Int32} {W : Nat → Nat → Int64} {t : Nat} {I' : Nat → Int32} {J' : Nat → Int64} {M' : Nat → Nat → Int32} {W' : Nat → Nat → Int64} {b f : Nat} {v : Int64} (h : cs_J sg s e n c z I J M W t I' J' M' W') : cs_J sg s e n c z I J M W t (mo_w I' b f) (va_up J' 9 v) M' W' := by
  obtain ⟨h1, h2, h3, h4, h5, h6, h7, hr⟩ := h
  exact ⟨h1.wm.j, h2, Eq.trans (mo_w_n (by decide) (by decide) (by decide)) h3, Eq.trans (mo_w_n (by decide) (by decide) (by decide)) h4, Eq.trans (mo_w_n (by decide) (by decide) (by decide)) h5, Eq.trans (mo_w_n (by decide) (by decide) (by decide)) h6, Eq.trans (mo_w_n (by decide) (by decide) (by decide)) h7, hr⟩
section SB
variable {l : Launch} {X : pm_X} {G G0 : pm_G} {a : Nat} {A : Nat → Nat} {I : Nat → Int32} {J : Nat → Int64} {M : Nat → Nat → Int32} {W : Nat → Nat → Int64} {sg : Nat → Nat} {s e n N c : Nat} {z : pz}
set_option maxHeartbeats 800000 in
theorem mo_b6 (hk : mk_ok sg M N) (hz : pz_b z) (h : mp_ok sg N c z I M W) (h6 : I 6 = nI e) (hse : s ≤ e) (hen : e ≤ N) (hn : N ≤ 4000) (hsn : zSn z < 1200) (h25 : M 25 (zSn z) = nI n) (h26 : M 26 (zSn z) = 0) (hc : 2 * c ≤ s) (h5 : I 5 = nI (w_w sg s e 0).2) (hkd : w_kd sg s e = 6) (hG : mo_at G0 a A I J (va_up M 24 (upd (M 24) (zSn z) 5)) W G) : ev_W l X m_Mo_block 3 0 0 (st_Q G0 a A sg s e n c z I J M W) 0 0 27 [(0, .ref a)] [] G := by
  obtain ⟨p1, p2, p3, p4, p5, p6, p7, p8, p9, p10, p11, p12⟩ := id h
  have hke := mk_le hk hen
  have e0 := pf_6 (n := n) (z := z) hkd
  have b0 := (w_w_b (sg := sg) hse 0).2.2.1
  have b1 := (w_w_b (sg := sg) hse 1).2.2.1
  have c1 := wc_lt (sg := sg) hse (j := 1) (by omega)
  have c2 := wc_lt (sg := sg) hse (j := 2) (by omega)
  refine ev_aload_n d_Mo_block_27 rfl rfl ?_
  refine ev_lconst (v := 1) d_Mo_block_28 (by decide) ?_
  refine ev_ldc2 d_Mo_block_29 hw_1210 ?_
  refine ev_callV2 d_Mo_block_32 ck_Mo_number ml_Mo_203 im_Mo_number se_Mo_number rfl hG.1 (c_Mo_number (e := e) (p := (w_w sg s e 0).2) (b := (w_w sg s e 1).1) (f := (w_w sg s e 1).2) hG (by (repeat (first | apply mk_up (h := by decide) | assumption))) (by (repeat (first | apply va_up_t (h := by decide) | apply mo_w_t (h5 := by decide) (h7 := by decide) (h8 := by decide) | exact va_up_s | exact mo_w_5 | exact mo_w_7 | exact mo_w_8 | assumption)); all_goals rfl) (by (repeat (first | apply va_up_t (h := by decide) | apply mo_w_t (h5 := by decide) (h7 := by decide) (h8 := by decide) | exact va_up_s | exact mo_w_5 | exact mo_w_7 | exact mo_w_8 | assumption)); all_goals rfl) b0 (by omega) rfl rfl) (by omega) (Nat.le_of_ble_eq_true rfl) (by omega) (by omega) ?_
  rintro _ G ⟨rfl, v, hG, hv⟩
  refine ev_if_ne 40 d_Mo_block_35 (by decide) (fun h1 => ?_) (fun h1 => ?_)
  · have h1 := cI_1 h1
    have hv := hv h1
    have w1 := c1.mpr (nu_wx h1.1)
    have g1 : 1 ≤ w_num sg s e 1 := (mn_l.mp h1).1
    have g2 : w_num sg s e 1 ≤ 20 := (mn_l.mp h1).2
    refine ev_aload_n d_Mo_block_40 rfl rfl ?_
    refine em_getA (i := 30) hG d_Mo_block_41 fo_Mo_65 rfl ?_
    refine ev_aload_n d_Mo_block_44 rfl rfl ?_
    refine em_getI (i := 23) hG d_Mo_block_45 fo_Mo_174 rfl (by (repeat (first | apply va_up_t (h := by decide) | apply mo_w_t (h5 := by decide) (h7 := by decide) (h8 := by decide) | exact va_up_s | exact mo_w_5 | exact mo_w_7 | exact mo_w_8 | assumption)); all_goals rfl) ?_
    refine ev_aload_n d_Mo_block_48 rfl rfl ?_
    refine em_getJ (i := 9) hG d_Mo_block_49 fo_Mo_150 rfl (by (repeat (first | apply va_up_t (h := by decide) | apply mo_w_t (h5 := by decide) (h7 := by decide) (h8 := by decide) | exact va_up_s | exact mo_w_5 | exact mo_w_7 | exact mo_w_8 | assumption)); all_goals rfl) ?_
    refine ev_l2i d_Mo_block_52 ?_
    refine em_iast (i := 30) (N := 1200) hG d_Mo_block_53 rfl rfl (by decide) (by omega) (fun G hG => ?_)
    refine ev_aload_n d_Mo_block_54 rfl rfl ?_
    refine ev_callV0 d_Mo_block_55 ck_Mo_through ml_Mo_184 im_Mo_through se_Mo_through rfl hG.1 (c_Mo_through (e := e) (p := (w_w sg s e 1).2) hG (by (repeat (first | apply mk_up (h := by decide) | assumption))) (by (repeat (first | apply va_up_t (h := by decide) | apply mo_w_t (h5 := by decide) (h7 := by decide) (h8 := by decide) | exact va_up_s | exact mo_w_5 | exact mo_w_7 | exact mo_w_8 | assumption)); all_goals rfl) (by (repeat (first | apply va_up_t (h := by decide) | apply mo_w_t (h5 := by decide) (h7 := by decide) (h8 := by decide) | exact va_up_s | exact mo_w_5 | exact mo_w_7 | exact mo_w_8 | assumption)); all_goals rfl) b1 (by omega)) (by omega) (Nat.le_of_ble_eq_true rfl) (by omega) (by omega) ?_
    rintro _ G ⟨rfl, hG⟩
    refine ev_zret d_Mo_block_58 rfl cI_n ⟨_, _, _, _, _, rfl, hG, (by repeat (first | exact mp_fr.rf | refine mp_fr.wm ?_ | refine mp_fr.j ?_ | refine mp_fr.m ?_ (by decide) | refine mp_fr.i ?_ (by decide))), (by repeat (first | exact sn_fr.rf | refine sn_fr.up ?_ (by decide) | refine sn_fr.u18 ?_)), fun q => ?_, fun q => ⟨(sf_D 6 (nI n) 0 0 (w_num sg s e 1) 0, 0, (fun _ => 0), pz_open z), c, (by (repeat (first | apply va_up_t (h := by decide) | apply mo_w_t (h5 := by decide) (h7 := by decide) (h8 := by decide) | exact va_up_s | exact mo_w_5 | exact mo_w_7 | exact mo_w_8 | assumption)); all_goals rfl), (by (repeat (first | apply va_up_t (h := by decide) | apply mo_w_t (h5 := by decide) (h7 := by decide) (h8 := by decide) | exact va_up_s | exact mo_w_5 | exact mo_w_7 | exact mo_w_8 | assumption)); all_goals rfl), (by (repeat (first | apply va_up_t (h := by decide) | apply mo_w_t (h5 := by decide) (h7 := by decide) (h8 := by decide) | exact va_up_s | exact mo_w_5 | exact mo_w_7 | exact mo_w_8 | assumption)); all_goals rfl), (by (repeat (first | apply va_up_t (h := by decide) | apply mo_w_t (h5 := by decide) (h7 := by decide) (h8 := by decide) | exact va_up_s | exact mo_w_5 | exact mo_w_7 | exact mo_w_8 | assumption)); all_goals rfl), (by (repeat (first | apply va_up_t (h := by decide) | apply mo_w_t (h5 := by decide) (h7 := by decide) (h8 := by decide) | exact va_up_s | exact mo_w_5 | exact mo_w_7 | exact mo_w_8 | assumption)); all_goals rfl), Nat.le_refl _, (by omega), ms_6 (by (repeat (first | apply va_up_mt (h := by decide) | apply va_up_ms | apply pk_ut (h := by omega) | apply pk_uLt (h := by omega) | exact pk_us | exact pk_uLs | assumption)); all_goals rfl) (h25 : _) (h26 : _) ((congrFun va_up_s _).trans (pk_us.trans (by rw [hv]; exact i64_i32))), sw_0, rfl, rfl, fun _ => rfl, fun (y : (6 : Int32) = 8) => absurd y (by decide), ?_, 6, by decide, by decide, rfl⟩⟩
    · rw [e0, zIf_f (fun y => q (fun w => by have := c2.mpr w; omega))]
    · have : ¬ 2 < w_c sg s e := fun y => q (c2.mp y)
      by_cases d : zDp z < 8
      · rw [e0, zIf_t ⟨by omega, g1, g2, d⟩, zIf_f (fun y => y.2 d)]
      · rw [e0, zIf_f (fun y => d y.2.2.2), zIf_t ⟨Or.inl rfl, d⟩]
  · have h1 := cI_0 h1
    refine ev_iconst (v := 0) d_Mo_block_38 (by decide) ?_
    exact ev_zret d_Mo_block_39 rfl rfl ⟨False, _, _, _, _, by rw [cI_f id], hG, (by repeat (first | exact mp_fr.rf | refine mp_fr.wm ?_ | refine mp_fr.j ?_ | refine mp_fr.m ?_ (by decide) | refine mp_fr.i ?_ (by decide))), (by repeat (first | exact sn_fr.rf | refine sn_fr.up ?_ (by decide) | refine sn_fr.u18 ?_)), fun _ => by rw [e0, zIf_f (p := (w_c sg s e = 2 ∧ 1 ≤ w_num sg s e 1 ∧ w_num sg s e 1 ≤ 20 ∧ zDp z < 8)) (fun q => h1 (mn_l.mpr ⟨q.2.1, q.2.2.1⟩))], fun q => q.elim⟩
set_option maxHeartbeats 800000 in
theorem mo_b8 (hk : mk_ok sg M N) (hz : pz_b z) (h : mp_ok sg N c z I M W) (h6 : I 6 = nI e) (hse : s ≤ e) (hen : e ≤ N) (hn : N ≤ 4000) (hsn : zSn z < 1200) (h25 : M 25 (zSn z) = nI n) (h26 : M 26 (zSn z) = 0) (hc : 2 * c ≤ s) (ht : 0 < zTn z) (hal : ∀ a, zAl z (zTn z - 1) = some a → a < 2 ^ 30) (hx0 : wx sg s e 0) (h5 : I 5 = nI (w_w sg s e 0).2) (hkd : w_kd sg s e = 8) (hG : mo_at G0 a A I J (va_up M 24 (upd (M 24) (zSn z) 7)) W G) : ev_W l X m_Mo_block 3 0 0 (st_Q G0 a A sg s e n c z I J M W) 0 0 89 [(0, .ref a)] [] G := by
  obtain ⟨p1, p2, p3, p4, p5, p6, p7, p8, p9, p10, p11, p12⟩ := id h
  have hke := mk_le hk hen
  have e0 := pf_8 (n := n) (z := z) hkd
  have b0 := (w_w_b (sg := sg) hse 0).2.2.1
  have c0 := (wc_lt (sg := sg) hse (j := 0) (by omega)).mpr hx0
  have c1 := wc_lt (sg := sg) hse (j := 1) (by omega)
  have t12 := hz.2.2.1
  have d8 := hz.2.2.2.2.2.2.2.2.1
  have h18 : M 18 (zTn z) = bhI ((zAl z (zTn z - 1)).elim 0 (· + 1)) := by
    have := (p8 (zTn z - 1) (by omega)).2.1
    rw [show zTn z - 1 + 1 = zTn z by omega] at this
    exact this
  have bad : (zDp z = 0 → ¬ zAl z (zTn z - 1) = none) → ev_W l X m_Mo_block 3 0 0 (st_Q G0 a A sg s e n c z I J M W) 0 0 108 [(0, .ref a)] [] G := by
    intro y
    refine ev_iconst (v := 0) d_Mo_block_108 (by decide) ?_
    exact ev_zret d_Mo_block_109 rfl rfl ⟨False, _, _, _, _, by rw [cI_f id], hG, (by repeat (first | exact mp_fr.rf | refine mp_fr.wm ?_ | refine mp_fr.j ?_ | refine mp_fr.m ?_ (by decide) | refine mp_fr.i ?_ (by decide))), (by repeat (first | exact sn_fr.rf | refine sn_fr.up ?_ (by decide) | refine sn_fr.u18 ?_)), fun _ => by rw [e0, zIf_f (fun q => y q.2.1 q.2.2)], fun q => q.elim⟩
  refine ev_aload_n d_Mo_block_89 rfl rfl ?_
  refine em_getI (i := 36) hG d_Mo_block_90 fo_Mo_190 rfl (by (repeat (first | apply va_up_t (h := by decide) | apply mo_w_t (h5 := by decide) (h7 := by decide) (h8 := by decide) | exact va_up_s | exact mo_w_5 | exact mo_w_7 | exact mo_w_8 | assumption)); all_goals rfl) ?_
  refine ev_if_gt 108 d_Mo_block_93 (by decide) (fun h1 => ?_) (fun h1 => ?_)
  · exact bad (fun q => by rw [q] at h1; exact absurd h1 (by decide))
  · have d0 : zDp z = 0 := by
      rcases Nat.eq_zero_or_pos (zDp z) with q | q
      · exact q
      · exact absurd (nI_lt (a := 0) q (by omega)) h1
    refine ev_aload_n d_Mo_block_96 rfl rfl ?_
    refine em_getA (i := 18) hG d_Mo_block_97 fo_Mo_31 rfl ?_
    refine ev_aload_n d_Mo_block_100 rfl rfl ?_
    refine em_getI (i := 14) hG d_Mo_block_101 fo_Mo_171 rfl (by (repeat (first | apply va_up_t (h := by decide) | apply mo_w_t (h5 := by decide) (h7 := by decide) (h8 := by decide) | exact va_up_s | exact mo_w_5 | exact mo_w_7 | exact mo_w_8 | assumption)); all_goals rfl) ?_
    refine em_iald (i := 18) (N := 13) hG d_Mo_block_104 rfl rfl (by decide) (by omega) (by (repeat (first | apply va_up_mt (h := by decide) | apply va_up_ms | apply pk_ut (h := by omega) | apply pk_uLt (h := by omega) | exact pk_us | exact pk_uLs | assumption)); all_goals rfl) ?_
    refine ev_if_lt 110 d_Mo_block_105 (by decide) (fun h2 => ?_) (fun h2 => ?_)
    · have h2 := (bhI_neg hal).mp h2
      refine ev_aload_n d_Mo_block_110 rfl rfl ?_
      refine em_getA (i := 18) hG d_Mo_block_111 fo_Mo_31 rfl ?_
      refine ev_aload_n d_Mo_block_114 rfl rfl ?_
      refine em_getI (i := 14) hG d_Mo_block_115 fo_Mo_171 rfl (by (repeat (first | apply va_up_t (h := by decide) | apply mo_w_t (h5 := by decide) (h7 := by decide) (h8 := by decide) | exact va_up_s | exact mo_w_5 | exact mo_w_7 | exact mo_w_8 | assumption)); all_goals rfl) ?_
      refine ev_aload_n d_Mo_block_118 rfl rfl ?_
      refine em_getI (i := 23) hG d_Mo_block_119 fo_Mo_174 rfl (by (repeat (first | apply va_up_t (h := by decide) | apply mo_w_t (h5 := by decide) (h7 := by decide) (h8 := by decide) | exact va_up_s | exact mo_w_5 | exact mo_w_7 | exact mo_w_8 | assumption)); all_goals rfl) ?_
      refine em_iast (i := 18) (N := 13) hG d_Mo_block_122 rfl rfl (by decide) (by omega) (fun G hG => ?_)
      refine ev_aload_n d_Mo_block_123 rfl rfl ?_
      refine ev_callV0 d_Mo_block_124 ck_Mo_through ml_Mo_184 im_Mo_through se_Mo_through rfl hG.1 (c_Mo_through (e := e) (p := (w_w sg s e 0).2) hG (by (repeat (first | apply mk_up (h := by decide) | assumption))) (by (repeat (first | apply va_up_t (h := by decide) | apply mo_w_t (h5 := by decide) (h7 := by decide) (h8 := by decide) | exact va_up_s | exact mo_w_5 | exact mo_w_7 | exact mo_w_8 | assumption)); all_goals rfl) (by (repeat (first | apply va_up_t (h := by decide) | apply mo_w_t (h5 := by decide) (h7 := by decide) (h8 := by decide) | exact va_up_s | exact mo_w_5 | exact mo_w_7 | exact mo_w_8 | assumption)); all_goals rfl) b0 (by omega)) (by omega) (Nat.le_of_ble_eq_true rfl) (by omega) (by omega) ?_
      rintro _ G ⟨rfl, hG⟩
      refine ev_zret d_Mo_block_127 rfl cI_n ⟨_, _, _, _, _, rfl, hG, (by repeat (first | exact mp_fr.rf | refine mp_fr.wm ?_ | refine mp_fr.j ?_ | refine mp_fr.m ?_ (by decide) | refine mp_fr.i ?_ (by decide))), (by repeat (first | exact sn_fr.rf | refine sn_fr.up ?_ (by decide) | refine sn_fr.u18 ?_)), fun q => ?_, fun q => ⟨(sf_D 8 (nI n) 0 0 0 0, 0, (fun _ => 0), pz_open (pz_always z)), c, (by (repeat (first | apply va_up_t (h := by decide) | apply mo_w_t (h5 := by decide) (h7 := by decide) (h8 := by decide) | exact va_up_s | exact mo_w_5 | exact mo_w_7 | exact mo_w_8 | assumption)); all_goals rfl), (by (repeat (first | apply va_up_t (h := by decide) | apply mo_w_t (h5 := by decide) (h7 := by decide) (h8 := by decide) | exact va_up_s | exact mo_w_5 | exact mo_w_7 | exact mo_w_8 | assumption)); all_goals rfl), (by (repeat (first | apply va_up_t (h := by decide) | apply mo_w_t (h5 := by decide) (h7 := by decide) (h8 := by decide) | exact va_up_s | exact mo_w_5 | exact mo_w_7 | exact mo_w_8 | assumption)); all_goals rfl), (by (repeat (first | apply va_up_t (h := by decide) | apply mo_w_t (h5 := by decide) (h7 := by decide) (h8 := by decide) | exact va_up_s | exact mo_w_5 | exact mo_w_7 | exact mo_w_8 | assumption)); all_goals rfl), (by (repeat (first | apply va_up_t (h := by decide) | apply mo_w_t (h5 := by decide) (h7 := by decide) (h8 := by decide) | exact va_up_s | exact mo_w_5 | exact mo_w_7 | exact mo_w_8 | assumption)); all_goals rfl), Nat.le_refl _, (by omega), ms_8 (by (repeat (first | apply va_up_mt (h := by decide) | apply va_up_ms | apply pk_ut (h := by omega) | apply pk_uLt (h := by omega) | exact pk_us | exact pk_uLs | assumption)); all_goals rfl) (h25 : _) (h26 : _), sw_0, rfl, rfl, fun (y : ¬ (8 : Int32) = 8) => absurd rfl y, fun _ => rfl, ?_, 8, by decide, by decide, rfl⟩⟩
      · rw [e0, zIf_f (fun y => q (fun w => by have := c1.mpr w; omega))]
      · have : ¬ 1 < w_c sg s e := fun y => q (c1.mp y)
        rw [e0, zIf_t ⟨by omega, d0, h2⟩, zIf_f (fun y => y.2 (by omega))]
    · exact bad (fun _ q => h2 ((bhI_neg hal).mpr q))
set_option maxHeartbeats 800000 in
theorem mo_b7x (hk : mk_ok sg M N) (hz : pz_b z) (h : mp_ok sg N c z I M W) (h6 : I 6 = nI e) (hse : s ≤ e) (hen : e ≤ N) (hn : N ≤ 4000) (hsn : zSn z < 1200) (h25 : M 25 (zSn z) = nI n) (h26 : M 26 (zSn z) = 0) (hc : 2 * c ≤ s) (hkd : w_kd sg s e = 7) (hv0 : 0 < w_v sg s e z) {t : Nat} {I' : Nat → Int32} {J' : Nat → Int64} {M' : Nat → Nat → Int32} {W' : Nat → Nat → Int64} (hJ : cs_J sg s e n c z I J M W t I' J' M' W') (hx : t = 10 ∧ I' 5 = nI (w_w sg s e (t + 1)).2 ∨ t < 10 ∧ w_num sg s e (t + 2) = -1000000 ∧ I' 7 = nI (w_w sg s e (t + 2)).1 ∧ I' 8 = nI (w_w sg s e (t + 2)).2) (hG : mo_at G0 a A I' J' M' W' G) : ev_W l X m_Mo_block 3 0 0 (st_Q G0 a A sg s e n c z I J M W) 0 0 257 [(0, .ref a)] [] G := by
  obtain ⟨p1, p2, p3, p4, p5, p6, p7, p8, p9, p10, p11, p12⟩ := id h
  have hke := mk_le hk hen
  have e0 := pf_7 (n := n) (z := z) hkd
  obtain ⟨j1, j2, j3, j4, j5, j6, j7, j8, j9, j10, j11, j12, j13, j14, j15, j16, j17, j18, j19, j20, j21⟩ := id hJ
  have hi6 : I' 6 = nI e := (j1.1 6 (by omega)).trans h6
  have hi23 : I' 23 = nI (zSn z) := j5.trans p3
  have hk' : mk_ok sg M' e := fun i hi => by rw [j1.2.2.2.1]; exact hk i (by omega)
  have c1 := (wc_lt (sg := sg) hse (j := t + 1) (by omega)).mpr j19
  have c2 := wc_lt (sg := sg) hse (j := t + 2) (by omega)
  obtain ⟨b1, b2, b3, b4⟩ := w_w_b (sg := sg) hse (t + 1)
  obtain ⟨d1, d2, d3, d4⟩ := w_w_b (sg := sg) hse (t + 2)
  have tail : ∀ {I' : Nat → Int32} {J' : Nat → Int64} {G : pm_G}, cs_J sg s e n c z I J M W t I' J' M' W' → mo_at G0 a A I' J' M' W' G → ev_W l X m_Mo_block 3 0 0 (st_Q G0 a A sg s e n c z I J M W) 0 0 294 [(0, .ref a)] [.int (cI (¬ wx sg s e (t + 2)))] G := by
    intro I' J' G hJ hG
    obtain ⟨j1, j2, j3, j4, j5, j6, j7, -⟩ := id hJ
    have hi23 : I' 23 = nI (zSn z) := j5.trans p3
    have no : ¬ (¬ wx sg s e (t + 2) ∧ 0 < t) → pz_fill sg s e n z = none := by
      intro q
      rw [e0, zIf_f]
      rintro ⟨-, y1, y2, y3, -⟩
      by_cases w : wx sg s e (t + 2)
      · have w := c2.mpr w
        rcases hx with x | x
        · omega
        · exact y3 t (by omega) x.2.1
      · have w2 : ¬ t + 2 < w_c sg s e := fun y => w (c2.mp y)
        exact q ⟨w, by omega⟩
    have bad : ¬ (¬ wx sg s e (t + 2) ∧ 0 < t) → ev_W l X m_Mo_block 3 0 0 (st_Q G0 a A sg s e n c z I J M W) 0 0 315 [(0, .ref a), (1, .int (cI (¬ wx sg s e (t + 2))))] [] G := by
      intro q
      refine ev_iconst (v := 0) d_Mo_block_315 (by decide) ?_
      exact ev_zret d_Mo_block_316 rfl rfl ⟨False, _, _, _, _, by rw [cI_f id], hG, j1, j2, fun _ => no q, fun q => q.elim⟩
    refine ev_istore_n d_Mo_block_294 rfl (by decide) ?_
    refine ev_iload_n d_Mo_block_295 rfl rfl ?_
    refine ev_if_eq 315 d_Mo_block_296 (by decide) (fun q1 => ?_) (fun q1 => ?_)
    · exact bad (fun y => cI_0 q1 y.1)
    · have q1 := cI_1 q1
      refine ev_aload_n d_Mo_block_299 rfl rfl ?_
      refine em_getA (i := 30) hG d_Mo_block_300 fo_Mo_65 rfl ?_
      refine ev_aload_n d_Mo_block_303 rfl rfl ?_
      refine em_getI (i := 23) hG d_Mo_block_304 fo_Mo_174 rfl (by (repeat (first | apply va_up_t (h := by decide) | apply mo_w_t (h5 := by decide) (h7 := by decide) (h8 := by decide) | exact va_up_s | exact mo_w_5 | exact mo_w_7 | exact mo_w_8 | assumption)); all_goals rfl) ?_
      refine em_iald (i := 30) (N := 1200) hG d_Mo_block_307 rfl rfl (by decide) (by omega) (by (repeat (first | apply va_up_mt (h := by decide) | apply va_up_ms | apply pk_ut (h := by omega) | apply pk_uLt (h := by omega) | exact pk_us | exact pk_uLs | assumption)); all_goals rfl) ?_
      refine ev_if_le 315 d_Mo_block_308 (by decide) (fun q2 => ?_) (fun q2 => ?_)
      · exact bad (fun y => absurd q2 (nI_nle y.2 (by omega)))
      · have q2 : 0 < t := by
          rcases Nat.eq_zero_or_pos t with y | y
          · rw [y] at q2; exact absurd (by decide) q2
          · exact y
        have w2 : ¬ t + 2 < w_c sg s e := fun y => q1 (c2.mp y)
        have ew : w_c sg s e - 2 = t := by omega
        refine ev_iconst (v := 1) d_Mo_block_311 (by decide) ?_
        refine ev_goto 316 d_Mo_block_312 (by decide) ?_
        refine ev_zret d_Mo_block_316 rfl rfl ⟨True, _, _, _, _, by rw [cI_t trivial], hG, j1, j2, fun q => absurd trivial q, fun _ => ⟨(sf_D 7 (nI n) (nI (w_v sg s e z)) 0 0 0, w_c sg s e - 2, (fun i => if i < w_c sg s e - 2 then w_num sg s e (i + 2) else 0), pz_open z), c + t, j3, j4, j5, j6, j7, by omega, by omega, ms_7 (nl := w_c sg s e - 2) j8 j9 j10 (by rw [ew]; exact j11) j12 (by omega) (fun j hj => ?_), j16, j13, j14, fun _ => j15, fun (y : (7 : Int32) = 8) => absurd y (by decide), ?_, 7, by decide, by decide, rfl⟩⟩
        · show W' 35 (c + j) = (if j < w_c sg s e - 2 then w_num sg s e (j + 2) else 0).toInt64
          rw [if_pos hj]
          exact j17 j (by omega)
        · have hy : 0 < w_v sg s e z ∧ 3 ≤ w_c sg s e ∧ w_c sg s e ≤ 12 ∧ (∀ i, i < w_c sg s e - 2 → w_num sg s e (i + 2) ≠ -1000000) := ⟨hv0, by omega, by omega, fun i hi => j18 i (by omega)⟩
          by_cases d : zDp z < 8
          · rw [e0, zIf_t ⟨hy.1, hy.2.1, hy.2.2.1, hy.2.2.2, d⟩, zIf_f (fun y => y.2 d)]
          · rw [e0, zIf_f (fun y => d y.2.2.2.2), zIf_t ⟨Or.inr (Or.inl rfl), d⟩]
  refine ev_aload_n d_Mo_block_257 rfl rfl ?_
  refine em_getA (i := 30) hG d_Mo_block_258 fo_Mo_65 rfl ?_
  refine ev_aload_n d_Mo_block_261 rfl rfl ?_
  refine em_getI (i := 23) hG d_Mo_block_262 fo_Mo_174 rfl (by (repeat (first | apply va_up_t (h := by decide) | apply mo_w_t (h5 := by decide) (h7 := by decide) (h8 := by decide) | exact va_up_s | exact mo_w_5 | exact mo_w_7 | exact mo_w_8 | assumption)); all_goals rfl) ?_
  refine em_iald (i := 30) (N := 1200) hG d_Mo_block_265 rfl rfl (by decide) (by omega) (by (repeat (first | apply va_up_mt (h := by decide) | apply va_up_ms | apply pk_ut (h := by omega) | apply pk_uLt (h := by omega) | exact pk_us | exact pk_uLs | assumption)); all_goals rfl) ?_
  refine ev_bipush (v := 10) d_Mo_block_266 (by decide) ?_
  refine ev_icmp_ne 278 d_Mo_block_268 (by decide) (fun hc1 => ?_) (fun hc1 => ?_)
  · have hc1 : ¬ t = 10 := fun y => hc1 (by rw [y]; rfl)
    obtain ⟨x1, x2, x3, x4⟩ := hx.resolve_left (fun y => hc1 y.1)
    refine ev_aload_n d_Mo_block_278 rfl rfl ?_
    refine em_getI (i := 8) hG d_Mo_block_279 fo_Mo_143 rfl (by (repeat (first | apply va_up_t (h := by decide) | apply mo_w_t (h5 := by decide) (h7 := by decide) (h8 := by decide) | exact va_up_s | exact mo_w_5 | exact mo_w_7 | exact mo_w_8 | assumption)); all_goals rfl) ?_
    refine ev_aload_n d_Mo_block_282 rfl rfl ?_
    refine em_getI (i := 7) hG d_Mo_block_283 fo_Mo_140 rfl (by (repeat (first | apply va_up_t (h := by decide) | apply mo_w_t (h5 := by decide) (h7 := by decide) (h8 := by decide) | exact va_up_s | exact mo_w_5 | exact mo_w_7 | exact mo_w_8 | assumption)); all_goals rfl) ?_
    refine ev_icmp_ne 293 d_Mo_block_286 (by decide) (fun hc2 => ?_) (fun hc2 => ?_)
    · have w : wx sg s e (t + 2) := by
        unfold wx
        rcases Nat.lt_or_ge (w_w sg s e (t + 2)).1 (w_w sg s e (t + 2)).2 with y | y
        · exact y
        · exact absurd (by rw [show (w_w sg s e (t + 2)).1 = (w_w sg s e (t + 2)).2 by omega]) hc2
      refine ev_iconst (v := 0) d_Mo_block_293 (by decide) ?_
      have := tail hJ hG
      rw [cI_f (fun y => y w)] at this
      exact this
    · have w : ¬ wx sg s e (t + 2) := by
        have := (nI_eq (by omega) (by omega)).mp hc2
        unfold wx
        omega
      refine ev_iconst (v := 1) d_Mo_block_289 (by decide) ?_
      refine ev_goto 294 d_Mo_block_290 (by decide) ?_
      have := tail hJ hG
      rw [cI_t w] at this
      exact this
  · have hc1 : t = 10 := (nI_eq (by omega) (b := 10) (by omega)).mp hc1
    have x2 : I' 5 = nI (w_w sg s e (t + 1)).2 := (hx.resolve_right (fun y => by omega)).2
    refine ev_aload_n d_Mo_block_271 rfl rfl ?_
    refine ev_callV0 d_Mo_block_272 ck_Mo_through ml_Mo_184 im_Mo_through se_Mo_through rfl hG.1 (c_Mo_through (e := e) (p := (w_w sg s e (t + 1)).2) hG (by (repeat (first | apply mk_up (h := by decide) | assumption))) (by (repeat (first | apply va_up_t (h := by decide) | apply mo_w_t (h5 := by decide) (h7 := by decide) (h8 := by decide) | exact va_up_s | exact mo_w_5 | exact mo_w_7 | exact mo_w_8 | assumption)); all_goals rfl) (by (repeat (first | apply va_up_t (h := by decide) | apply mo_w_t (h5 := by decide) (h7 := by decide) (h8 := by decide) | exact va_up_s | exact mo_w_5 | exact mo_w_7 | exact mo_w_8 | assumption)); all_goals rfl) b3 (by omega)) (by omega) (Nat.le_of_ble_eq_true rfl) (by omega) (by omega) ?_
    rintro _ G ⟨rfl, hG⟩
    refine ev_goto 294 d_Mo_block_275 (by decide) ?_
    have hJ2 := hJ.w (b := (w_w sg s e (t + 2)).1) (f := (w_w sg s e (t + 2)).2) (v := J' 9)
    rw [va_up0] at hJ2
    exact tail hJ2 hG
set_option maxHeartbeats 800000 in
theorem mo_b7 (hk : mk_ok sg M N) (hz : pz_b z) (h : mp_ok sg N c z I M W) (h6 : I 6 = nI e) (hse : s ≤ e) (hen : e ≤ N) (hn : N ≤ 4000) (hsn : zSn z < 1200) (h25 : M 25 (zSn z) = nI n) (h26 : M 26 (zSn z) = 0) (hc : 2 * c ≤ s) (hkd : w_kd sg s e = 7) (h5 : I 5 = nI (w_w sg s e 0).2) (hG : mo_at G0 a A I J (va_up M 24 (upd (M 24) (zSn z) 6)) W G) : ev_W l X m_Mo_block 3 0 0 (st_Q G0 a A sg s e n c z I J M W) 0 0 159 [(0, .ref a)] [] G := by
  obtain ⟨p1, p2, p3, p4, p5, p6, p7, p8, p9, p10, p11, p12⟩ := id h
  have hke := mk_le hk hen
  have z1 := hz.1
  have zk : ∀ i, i < zVn z → 0 < zVk z i := fun i hi => (hz.2.1 i hi).1
  have e0 := pf_7 (n := n) (z := z) hkd
  have b0 := (w_w_b (sg := sg) hse 0).2.2.1
  have b1 := (w_w_b (sg := sg) hse 1)
  have loop : ∀ (m t : Nat) (I' : Nat → Int32) (J' : Nat → Int64) (M' : Nat → Nat → Int32) (W' : Nat → Nat → Int64) (G : pm_G), t + m = 10 → 0 < w_v sg s e z → cs_J sg s e n c z I J M W t I' J' M' W' → I' 5 = nI (w_w sg s e (t + 1)).2 → mo_at G0 a A I' J' M' W' G → ev_W l X m_Mo_block 3 0 0 (st_Q G0 a A sg s e n c z I J M W) 0 0 191 [(0, .ref a)] [] G := by
    intro m
    induction m with
    | zero =>
      intro t I' J' M' W' G ht hv0 hJ hi5 hG
      obtain ⟨j1, j2, j3, j4, j5, j6, j7, j8, j9, j10, j11, j12, j13, j14, j15, j16, j17, j18, j19, j20, j21⟩ := id hJ
      have hi23 : I' 23 = nI (zSn z) := j5.trans p3
      refine ev_aload_n d_Mo_block_191 rfl rfl ?_
      refine em_getA (i := 30) hG d_Mo_block_192 fo_Mo_65 rfl ?_
      refine ev_aload_n d_Mo_block_195 rfl rfl ?_
      refine em_getI (i := 23) hG d_Mo_block_196 fo_Mo_174 rfl (by (repeat (first | apply va_up_t (h := by decide) | apply mo_w_t (h5 := by decide) (h7 := by decide) (h8 := by decide) | exact va_up_s | exact mo_w_5 | exact mo_w_7 | exact mo_w_8 | assumption)); all_goals rfl) ?_
      refine em_iald (i := 30) (N := 1200) hG d_Mo_block_199 rfl rfl (by decide) (by omega) (by (repeat (first | apply va_up_mt (h := by decide) | apply va_up_ms | apply pk_ut (h := by omega) | apply pk_uLt (h := by omega) | exact pk_us | exact pk_uLs | assumption)); all_goals rfl) ?_
      refine ev_bipush (v := 10) d_Mo_block_200 (by decide) ?_
      refine ev_icmp_ge 257 d_Mo_block_202 (by decide) (fun hc1 => ?_) (fun hc1 => ?_)
      · exact mo_b7x hk hz h h6 hse hen hn hsn h25 h26 hc hkd hv0 hJ (Or.inl ⟨by omega, hi5⟩) hG
      · exact absurd (nI_le (a := 10) (by omega) (by omega)) hc1
    | succ m ih =>
      intro t I' J' M' W' G ht hv0 hJ hi5 hG
      obtain ⟨j1, j2, j3, j4, j5, j6, j7, j8, j9, j10, j11, j12, j13, j14, j15, j16, j17, j18, j19, j20, j21⟩ := id hJ
      have hi6 : I' 6 = nI e := (j1.1 6 (by omega)).trans h6
      have hi23 : I' 23 = nI (zSn z) := j5.trans p3
      have hk' : mk_ok sg M' e := fun i hi => by rw [j1.2.2.2.1]; exact hk i (by omega)
      obtain ⟨f1, f2, f3, f4⟩ := w_w_b (sg := sg) hse (t + 1)
      obtain ⟨d1, d2, d3, d4⟩ := w_w_b (sg := sg) hse (t + 2)
      refine ev_aload_n d_Mo_block_191 rfl rfl ?_
      refine em_getA (i := 30) hG d_Mo_block_192 fo_Mo_65 rfl ?_
      refine ev_aload_n d_Mo_block_195 rfl rfl ?_
      refine em_getI (i := 23) hG d_Mo_block_196 fo_Mo_174 rfl (by (repeat (first | apply va_up_t (h := by decide) | apply mo_w_t (h5 := by decide) (h7 := by decide) (h8 := by decide) | exact va_up_s | exact mo_w_5 | exact mo_w_7 | exact mo_w_8 | assumption)); all_goals rfl) ?_
      refine em_iald (i := 30) (N := 1200) hG d_Mo_block_199 rfl rfl (by decide) (by omega) (by (repeat (first | apply va_up_mt (h := by decide) | apply va_up_ms | apply pk_ut (h := by omega) | apply pk_uLt (h := by omega) | exact pk_us | exact pk_uLs | assumption)); all_goals rfl) ?_
      refine ev_bipush (v := 10) d_Mo_block_200 (by decide) ?_
      refine ev_icmp_ge 257 d_Mo_block_202 (by decide) (fun hc1 => ?_) (fun hc1 => ?_)
      · exact absurd hc1 (nI_ge (b := 10) (by omega) (by omega))
      · refine ev_aload_n d_Mo_block_205 rfl rfl ?_
        refine ev_ldc2 d_Mo_block_206 hw_1191 ?_
        refine ev_ldc2 d_Mo_block_209 hw_1192 ?_
        refine ev_callV2 d_Mo_block_212 ck_Mo_number ml_Mo_203 im_Mo_number se_Mo_number rfl hG.1 (c_Mo_number (e := e) (p := (w_w sg s e (t + 1)).2) (b := (w_w sg s e (t + 2)).1) (f := (w_w sg s e (t + 2)).2) hG (by (repeat (first | apply mk_up (h := by decide) | assumption))) (by (repeat (first | apply va_up_t (h := by decide) | apply mo_w_t (h5 := by decide) (h7 := by decide) (h8 := by decide) | exact va_up_s | exact mo_w_5 | exact mo_w_7 | exact mo_w_8 | assumption)); all_goals rfl) (by (repeat (first | apply va_up_t (h := by decide) | apply mo_w_t (h5 := by decide) (h7 := by decide) (h8 := by decide) | exact va_up_s | exact mo_w_5 | exact mo_w_7 | exact mo_w_8 | assumption)); all_goals rfl) f3 (by omega) rfl rfl) (by omega) (Nat.le_of_ble_eq_true rfl) (by omega) (by omega) ?_
        rintro _ G ⟨rfl, v, hG, hv⟩
        have hJ2 := hJ.w (b := (w_w sg s e (t + 2)).1) (f := (w_w sg s e (t + 2)).2) (v := v)
        refine ev_if_eq 257 d_Mo_block_215 (by decide) (fun h1 => ?_) (fun h1 => ?_)
        · have h1 := cI_0 h1
          refine mo_b7x hk hz h h6 hse hen hn hsn h25 h26 hc hkd hv0 hJ2 (Or.inr ⟨by omega, ?_, mo_w_7, mo_w_8⟩) hG
          exact Classical.byContradiction fun y => h1 (mn_w.mpr y)
        · have h1 := cI_1 h1
          have hv := hv h1
          have w2 : wx sg s e (t + 2) := nu_wx h1.1
          have f5 : (w_w sg s e (t + 1)).2 + 2 ≤ (w_w sg s e (t + 2)).2 := wx_2 hse j19 w2
          have hi34 : mo_w I' (w_w sg s e (t + 2)).1 (w_w sg s e (t + 2)).2 34 = nI (c + t) := Eq.trans (mo_w_n (by decide) (by decide) (by decide)) j7
          refine ev_aload_n d_Mo_block_218 rfl rfl ?_
          refine em_getA (i := 35) hG d_Mo_block_219 fo_Mo_78 rfl ?_
          refine ev_aload_n d_Mo_block_222 rfl rfl ?_
          refine em_getI (i := 34) hG d_Mo_block_223 fo_Mo_220 rfl (by (repeat (first | apply va_up_t (h := by decide) | apply mo_w_t (h5 := by decide) (h7 := by decide) (h8 := by decide) | exact va_up_s | exact mo_w_5 | exact mo_w_7 | exact mo_w_8 | assumption)); all_goals rfl) ?_
          refine ev_aload_n d_Mo_block_226 rfl rfl ?_
          refine em_getJ (i := 9) hG d_Mo_block_227 fo_Mo_150 rfl (by (repeat (first | apply va_up_t (h := by decide) | apply mo_w_t (h5 := by decide) (h7 := by decide) (h8 := by decide) | exact va_up_s | exact mo_w_5 | exact mo_w_7 | exact mo_w_8 | assumption)); all_goals rfl) ?_
          refine em_last (i := 35) (N := 2000) hG d_Mo_block_230 rfl rfl (by decide) (by omega) (fun G hG => ?_)
          refine ev_aload_n d_Mo_block_231 rfl rfl ?_
          refine ev_dup d_Mo_block_232 rfl ?_
          refine em_getI (i := 34) hG d_Mo_block_233 fo_Mo_220 rfl (by (repeat (first | apply va_up_t (h := by decide) | apply mo_w_t (h5 := by decide) (h7 := by decide) (h8 := by decide) | exact va_up_s | exact mo_w_5 | exact mo_w_7 | exact mo_w_8 | assumption)); all_goals rfl) ?_
          refine ev_iconst (v := 1) d_Mo_block_236 (by decide) ?_
          refine ev_iadd d_Mo_block_237 ?_
          rw [nI_1]
          refine em_putI (i := 34) hG d_Mo_block_238 fo_Mo_220 rfl rfl (by decide) mv_34 (fun G hG => ?_)
          refine ev_aload_n d_Mo_block_241 rfl rfl ?_
          refine em_getA (i := 30) hG d_Mo_block_242 fo_Mo_65 rfl ?_
          refine ev_aload_n d_Mo_block_245 rfl rfl ?_
          refine em_getI (i := 23) hG d_Mo_block_246 fo_Mo_174 rfl (by (repeat (first | apply va_up_t (h := by decide) | apply mo_w_t (h5 := by decide) (h7 := by decide) (h8 := by decide) | exact va_up_s | exact mo_w_5 | exact mo_w_7 | exact mo_w_8 | assumption)); all_goals rfl) ?_
          first | refine ev_dup2l d_Mo_block_249 rfl ?_ | refine ev_dup2 d_Mo_block_249 rfl rfl ?_
          refine em_iald (i := 30) (N := 1200) hG d_Mo_block_250 rfl rfl (by decide) (by omega) (by (repeat (first | apply va_up_mt (h := by decide) | apply va_up_ms | apply pk_ut (h := by omega) | apply pk_uLt (h := by omega) | exact pk_us | exact pk_uLs | assumption)); all_goals rfl) ?_
          refine ev_iconst (v := 1) d_Mo_block_251 (by decide) ?_
          refine ev_iadd d_Mo_block_252 ?_
          rw [nI_1]
          refine em_iast (i := 30) (N := 1200) hG d_Mo_block_253 rfl rfl (by decide) (by omega) (fun G hG => ?_)
          refine ev_goto 191 d_Mo_block_254 (by decide) ?_
          refine ih (t + 1) _ _ _ _ G (by omega) hv0 ?_ (by (repeat (first | apply va_up_t (h := by decide) | apply mo_w_t (h5 := by decide) (h7 := by decide) (h8 := by decide) | exact va_up_s | exact mo_w_5 | exact mo_w_7 | exact mo_w_8 | assumption)); all_goals rfl) hG
          refine ⟨(hJ2.1.i (by decide)).m (by decide), j2.up (by decide), (by (repeat (first | apply va_up_t (h := by decide) | apply mo_w_t (h5 := by decide) (h7 := by decide) (h8 := by decide) | exact va_up_s | exact mo_w_5 | exact mo_w_7 | exact mo_w_8 | assumption)); all_goals rfl), (by (repeat (first | apply va_up_t (h := by decide) | apply mo_w_t (h5 := by decide) (h7 := by decide) (h8 := by decide) | exact va_up_s | exact mo_w_5 | exact mo_w_7 | exact mo_w_8 | assumption)); all_goals rfl), (by (repeat (first | apply va_up_t (h := by decide) | apply mo_w_t (h5 := by decide) (h7 := by decide) (h8 := by decide) | exact va_up_s | exact mo_w_5 | exact mo_w_7 | exact mo_w_8 | assumption)); all_goals rfl), (by (repeat (first | apply va_up_t (h := by decide) | apply mo_w_t (h5 := by decide) (h7 := by decide) (h8 := by decide) | exact va_up_s | exact mo_w_5 | exact mo_w_7 | exact mo_w_8 | assumption)); all_goals rfl), va_up_s, j8, j9, j10, (congrFun va_up_s _).trans pk_us, j12, j13, j14, j15, ⟨j16.1, j16.2.1, fun j hj => (congrFun va_up_s _).trans ((pk_uLn (by omega)).trans (j16.2.2 j hj))⟩, fun j hj => ?_, fun j hj => ?_, w2, by omega, by show 2 * (c + (t + 1)) ≤ (w_w sg s e (t + 2)).2; omega⟩
          · refine (congrFun va_up_s _).trans ?_
            by_cases q : j = t
            · rw [q]; exact pk_uLs.trans hv
            · exact (pk_uLn (by omega)).trans (j17 j (by omega))
          · by_cases q : j = t
            · rw [q]; exact h1.1
            · exact j18 j (by omega)
  refine ev_aload_n d_Mo_block_159 rfl rfl ?_
  refine ev_callV0 d_Mo_block_160 ck_Mo_named ml_Mo_196 im_Mo_named se_Mo_named rfl hG.1 (c_Mo_named (b := (w_w sg s e 1).1) (f := (w_w sg s e 1).2) (vn := zVn z) (vk := zVk z) (sn := zSn z) hG (by (repeat (first | apply mk_up (h := by decide) | assumption))) h5 (by (repeat (first | apply va_up_t (h := by decide) | apply mo_w_t (h5 := by decide) (h7 := by decide) (h8 := by decide) | exact va_up_s | exact mo_w_5 | exact mo_w_7 | exact mo_w_8 | assumption)); all_goals rfl) b0 hen hn rfl rfl (by (repeat (first | apply va_up_t (h := by decide) | apply mo_w_t (h5 := by decide) (h7 := by decide) (h8 := by decide) | exact va_up_s | exact mo_w_5 | exact mo_w_7 | exact mo_w_8 | assumption)); all_goals rfl) z1 p6 (by (repeat (first | apply va_up_t (h := by decide) | apply mo_w_t (h5 := by decide) (h7 := by decide) (h8 := by decide) | exact va_up_s | exact mo_w_5 | exact mo_w_7 | exact mo_w_8 | assumption)); all_goals rfl) hsn) (by omega) (Nat.le_of_ble_eq_true rfl) (by omega) (by omega) ?_
  rintro _ G ⟨rfl, y, hG, hy⟩
  refine ev_if_ne 168 d_Mo_block_163 (by decide) (fun h0 => ?_) (fun h0 => ?_)
  · have h0 := cI_1 h0
    refine ev_aload_n d_Mo_block_168 rfl rfl ?_
    refine em_getA (i := 32) hG d_Mo_block_169 fo_Mo_71 rfl ?_
    refine ev_aload_n d_Mo_block_172 rfl rfl ?_
    refine em_getI (i := 23) hG d_Mo_block_173 fo_Mo_174 rfl (by (repeat (first | apply va_up_t (h := by decide) | apply mo_w_t (h5 := by decide) (h7 := by decide) (h8 := by decide) | exact va_up_s | exact mo_w_5 | exact mo_w_7 | exact mo_w_8 | assumption)); all_goals rfl) ?_
    refine ev_aload_n d_Mo_block_176 rfl rfl ?_
    refine em_getI (i := 34) hG d_Mo_block_177 fo_Mo_220 rfl (by (repeat (first | apply va_up_t (h := by decide) | apply mo_w_t (h5 := by decide) (h7 := by decide) (h8 := by decide) | exact va_up_s | exact mo_w_5 | exact mo_w_7 | exact mo_w_8 | assumption)); all_goals rfl) ?_
    refine em_iast (i := 32) (N := 1200) hG d_Mo_block_180 rfl rfl (by decide) (by omega) (fun G hG => ?_)
    refine ev_aload_n d_Mo_block_181 rfl rfl ?_
    refine em_getA (i := 30) hG d_Mo_block_182 fo_Mo_65 rfl ?_
    refine ev_aload_n d_Mo_block_185 rfl rfl ?_
    refine em_getI (i := 23) hG d_Mo_block_186 fo_Mo_174 rfl (by (repeat (first | apply va_up_t (h := by decide) | apply mo_w_t (h5 := by decide) (h7 := by decide) (h8 := by decide) | exact va_up_s | exact mo_w_5 | exact mo_w_7 | exact mo_w_8 | assumption)); all_goals rfl) ?_
    refine ev_iconst (v := 0) d_Mo_block_189 (by decide) ?_
    refine em_iast (i := 30) (N := 1200) hG d_Mo_block_190 rfl rfl (by decide) (by omega) (fun G hG => ?_)
    refine loop 10 0 _ _ _ _ G (by omega) h0 ?_ (by (repeat (first | apply va_up_t (h := by decide) | apply mo_w_t (h5 := by decide) (h7 := by decide) (h8 := by decide) | exact va_up_s | exact mo_w_5 | exact mo_w_7 | exact mo_w_8 | assumption)); all_goals rfl) hG
    exact ⟨(by repeat (first | exact mp_fr.rf | refine mp_fr.wm ?_ | refine mp_fr.j ?_ | refine mp_fr.m ?_ (by decide) | refine mp_fr.i ?_ (by decide))), (by repeat (first | exact sn_fr.rf | refine sn_fr.up ?_ (by decide) | refine sn_fr.u18 ?_)), (by (repeat (first | apply va_up_t (h := by decide) | apply mo_w_t (h5 := by decide) (h7 := by decide) (h8 := by decide) | exact va_up_s | exact mo_w_5 | exact mo_w_7 | exact mo_w_8 | assumption)); all_goals rfl), (by (repeat (first | apply va_up_t (h := by decide) | apply mo_w_t (h5 := by decide) (h7 := by decide) (h8 := by decide) | exact va_up_s | exact mo_w_5 | exact mo_w_7 | exact mo_w_8 | assumption)); all_goals rfl), (by (repeat (first | apply va_up_t (h := by decide) | apply mo_w_t (h5 := by decide) (h7 := by decide) (h8 := by decide) | exact va_up_s | exact mo_w_5 | exact mo_w_7 | exact mo_w_8 | assumption)); all_goals rfl), (by (repeat (first | apply va_up_t (h := by decide) | apply mo_w_t (h5 := by decide) (h7 := by decide) (h8 := by decide) | exact va_up_s | exact mo_w_5 | exact mo_w_7 | exact mo_w_8 | assumption)); all_goals rfl), (by (repeat (first | apply va_up_t (h := by decide) | apply mo_w_t (h5 := by decide) (h7 := by decide) (h8 := by decide) | exact va_up_s | exact mo_w_5 | exact mo_w_7 | exact mo_w_8 | assumption)); all_goals rfl), (by (repeat (first | apply va_up_mt (h := by decide) | apply va_up_ms | apply pk_ut (h := by omega) | apply pk_uLt (h := by omega) | exact pk_us | exact pk_uLs | assumption)); all_goals rfl), (h25 : _), (by refine Eq.trans ?_ (hy h0); exact (by (repeat (first | apply va_up_mt (h := by decide) | apply va_up_ms | apply pk_ut (h := by omega) | apply pk_uLt (h := by omega) | exact pk_us | exact pk_uLs | assumption)); all_goals rfl)), (by (repeat (first | apply va_up_mt (h := by decide) | apply va_up_ms | apply pk_ut (h := by omega) | apply pk_uLt (h := by omega) | exact pk_us | exact pk_uLs | assumption)); all_goals rfl), (by (repeat (first | apply va_up_mt (h := by decide) | apply va_up_ms | apply pk_ut (h := by omega) | apply pk_uLt (h := by omega) | exact pk_us | exact pk_uLs | assumption)); all_goals rfl), rfl, rfl, rfl, sw_0, fun j hj => by omega, fun j hj => by omega, nm_wx h0 zk, by omega, by show 2 * (c + 0) ≤ (w_w sg s e 1).2; omega⟩
  · have h0 := cI_0 h0
    refine ev_iconst (v := 0) d_Mo_block_166 (by decide) ?_
    exact ev_zret d_Mo_block_167 rfl rfl ⟨False, _, _, _, _, by rw [cI_f id], hG, (by repeat (first | exact mp_fr.rf | refine mp_fr.wm ?_ | refine mp_fr.j ?_ | refine mp_fr.m ?_ (by decide) | refine mp_fr.i ?_ (by decide))), (by repeat (first | exact sn_fr.rf | refine sn_fr.up ?_ (by decide) | refine sn_fr.u18 ?_)), fun _ => by rw [e0, zIf_f (fun q => h0 q.1)], fun q => q.elim⟩
set_option maxHeartbeats 800000 in
theorem c_Mo_block (hk : mk_ok sg M N) (hz : pz_b z) (h : mp_ok sg N c z I M W) (h6 : I 6 = nI e) (hse : s ≤ e) (hen : e ≤ N) (hn : N ≤ 4000) (hsn : zSn z < 1200) (h25 : M 25 (zSn z) = nI n) (h26 : M 26 (zSn z) = 0) (hc : 2 * c ≤ s) (ht : 0 < zTn z) (hal : ∀ a, zAl z (zTn z - 1) = some a → a < 2 ^ 30) (hx0 : wx sg s e 0) (h5 : I 5 = nI (w_w sg s e 0).2) (h7 : I 7 = nI (w_w sg s e 0).1) (h8 : I 8 = nI (w_w sg s e 0).2) (hno : ∀ i, 3 ≤ i → i ≤ 7 → ¬ w_is sg s e 0 i) (hG : mo_at G0 a A I J M W G) : cn_M l X m_Mo_block 3 0 0 [.ref a] G (st_Q G0 a A sg s e n c z I J M W) := by
  obtain ⟨p1, p2, p3, p4, p5, p6, p7, p8, p9, p10, p11, p12⟩ := id h
  have hke := mk_le hk hen
  have a0 := (w_w_b (sg := sg) hse 0).2.1
  have b0 := (w_w_b (sg := sg) hse 0).2.2.1
  refine cn_in rfl (Nat.le_of_ble_eq_true rfl) ?_
  refine ev_aload_n d_Mo_block_0 rfl rfl ?_
  refine ev_bipush (v := 108) d_Mo_block_1 (by decide) ?_
  refine ev_bipush (v := 111) d_Mo_block_3 (by decide) ?_
  refine ev_bipush (v := 111) d_Mo_block_5 (by decide) ?_
  refine ev_bipush (v := 112) d_Mo_block_7 (by decide) ?_
  refine ev_iconst (v := 0) d_Mo_block_9 (by decide) ?_
  refine ev_iconst (v := 0) d_Mo_block_10 (by decide) ?_
  refine ev_callV6 d_Mo_block_11 ck_Mo_is ml_Mo_177 im_Mo_is se_Mo_is rfl hG.1 (c_Mo_is (b := (w_w sg s e 0).1) (f := (w_w sg s e 0).2) 8 hG hk h7 h8 a0 (by omega) hn (by decide) (by decide)) (by omega) (Nat.le_of_ble_eq_true rfl) (by omega) (by omega) ?_
  rintro _ _ ⟨rfl, rfl⟩
  refine ev_if_eq 59 d_Mo_block_14 (by decide) (fun q8 => ?_) (fun q8 => ?_)
  · have q8 := cI_0 q8
    refine ev_aload_n d_Mo_block_59 rfl rfl ?_
    refine ev_bipush (v := 97) d_Mo_block_60 (by decide) ?_
    refine ev_bipush (v := 108) d_Mo_block_62 (by decide) ?_
    refine ev_bipush (v := 119) d_Mo_block_64 (by decide) ?_
    refine ev_bipush (v := 97) d_Mo_block_66 (by decide) ?_
    refine ev_bipush (v := 121) d_Mo_block_68 (by decide) ?_
    refine ev_bipush (v := 115) d_Mo_block_70 (by decide) ?_
    refine ev_callV6 d_Mo_block_72 ck_Mo_is ml_Mo_177 im_Mo_is se_Mo_is rfl hG.1 (c_Mo_is (b := (w_w sg s e 0).1) (f := (w_w sg s e 0).2) 10 hG hk h7 h8 a0 (by omega) hn (by decide) (by decide)) (by omega) (Nat.le_of_ble_eq_true rfl) (by omega) (by omega) ?_
    rintro _ _ ⟨rfl, rfl⟩
    refine ev_if_eq 128 d_Mo_block_75 (by decide) (fun q10 => ?_) (fun q10 => ?_)
    · have q10 := cI_0 q10
      refine ev_aload_n d_Mo_block_128 rfl rfl ?_
      refine ev_bipush (v := 99) d_Mo_block_129 (by decide) ?_
      refine ev_bipush (v := 97) d_Mo_block_131 (by decide) ?_
      refine ev_bipush (v := 115) d_Mo_block_133 (by decide) ?_
      refine ev_bipush (v := 101) d_Mo_block_135 (by decide) ?_
      refine ev_bipush (v := 115) d_Mo_block_137 (by decide) ?_
      refine ev_iconst (v := 0) d_Mo_block_139 (by decide) ?_
      refine ev_callV6 d_Mo_block_140 ck_Mo_is ml_Mo_177 im_Mo_is se_Mo_is rfl hG.1 (c_Mo_is (b := (w_w sg s e 0).1) (f := (w_w sg s e 0).2) 9 hG hk h7 h8 a0 (by omega) hn (by decide) (by decide)) (by omega) (Nat.le_of_ble_eq_true rfl) (by omega) (by omega) ?_
      rintro _ _ ⟨rfl, rfl⟩
      refine ev_if_ne 148 d_Mo_block_143 (by decide) (fun q9 => ?_) (fun q9 => ?_)
      · have q9 := cI_1 q9
        refine ev_aload_n d_Mo_block_148 rfl rfl ?_
        refine em_getA (i := 24) hG d_Mo_block_149 fo_Mo_47 rfl ?_
        refine ev_aload_n d_Mo_block_152 rfl rfl ?_
        refine em_getI (i := 23) hG d_Mo_block_153 fo_Mo_174 rfl (by (repeat (first | apply va_up_t (h := by decide) | apply mo_w_t (h5 := by decide) (h7 := by decide) (h8 := by decide) | exact va_up_s | exact mo_w_5 | exact mo_w_7 | exact mo_w_8 | assumption)); all_goals rfl) ?_
        refine ev_bipush (v := 6) d_Mo_block_156 (by decide) ?_
        refine em_iast (i := 24) (N := 1200) hG d_Mo_block_158 rfl rfl (by decide) (by omega) (fun G hG => ?_)
        exact mo_b7 hk hz h h6 hse hen hn hsn h25 h26 hc (w_kd_7 q9) h5 hG
      · have q9 := cI_0 q9
        have e0 : pz_fill sg s e n z = none := pf_0 (w_kd_no (fun i i1 i2 => by
          rcases Nat.lt_or_ge i 8 with y | y
          · exact hno i i1 (by omega)
          · have : i = 8 ∨ i = 9 ∨ i = 10 := by omega
            rcases this with rfl | rfl | rfl
            · exact q8
            · exact q9
            · exact q10))
        refine ev_iconst (v := 0) d_Mo_block_146 (by decide) ?_
        exact ev_zret d_Mo_block_147 rfl rfl ⟨False, _, _, _, _, by rw [cI_f id], hG, (by repeat (first | exact mp_fr.rf | refine mp_fr.wm ?_ | refine mp_fr.j ?_ | refine mp_fr.m ?_ (by decide) | refine mp_fr.i ?_ (by decide))), (by repeat (first | exact sn_fr.rf | refine sn_fr.up ?_ (by decide) | refine sn_fr.u18 ?_)), fun _ => e0, fun q => q.elim⟩
    · have q10 := cI_1 q10
      refine ev_aload_n d_Mo_block_78 rfl rfl ?_
      refine em_getA (i := 24) hG d_Mo_block_79 fo_Mo_47 rfl ?_
      refine ev_aload_n d_Mo_block_82 rfl rfl ?_
      refine em_getI (i := 23) hG d_Mo_block_83 fo_Mo_174 rfl (by (repeat (first | apply va_up_t (h := by decide) | apply mo_w_t (h5 := by decide) (h7 := by decide) (h8 := by decide) | exact va_up_s | exact mo_w_5 | exact mo_w_7 | exact mo_w_8 | assumption)); all_goals rfl) ?_
      refine ev_bipush (v := 7) d_Mo_block_86 (by decide) ?_
      refine em_iast (i := 24) (N := 1200) hG d_Mo_block_88 rfl rfl (by decide) (by omega) (fun G hG => ?_)
      exact mo_b8 hk hz h h6 hse hen hn hsn h25 h26 hc ht hal hx0 h5 (w_kd_8 q10) hG
  · have q8 := cI_1 q8
    refine ev_aload_n d_Mo_block_17 rfl rfl ?_
    refine em_getA (i := 24) hG d_Mo_block_18 fo_Mo_47 rfl ?_
    refine ev_aload_n d_Mo_block_21 rfl rfl ?_
    refine em_getI (i := 23) hG d_Mo_block_22 fo_Mo_174 rfl (by (repeat (first | apply va_up_t (h := by decide) | apply mo_w_t (h5 := by decide) (h7 := by decide) (h8 := by decide) | exact va_up_s | exact mo_w_5 | exact mo_w_7 | exact mo_w_8 | assumption)); all_goals rfl) ?_
    refine ev_iconst (v := 5) d_Mo_block_25 (by decide) ?_
    refine em_iast (i := 24) (N := 1200) hG d_Mo_block_26 rfl rfl (by decide) (by omega) (fun G hG => ?_)
    exact mo_b6 hk hz h h6 hse hen hn hsn h25 h26 hc h5 (w_kd_6 q8) hG
set_option maxHeartbeats 800000 in
theorem c_Mo_step (hk : mk_ok sg M N) (hz : pz_b z) (h : mp_ok sg N c z I M W) (h6 : I 6 = nI e) (hse : s ≤ e) (hen : e ≤ N) (hn : N ≤ 4000) (hsn : zSn z < 1200) (h25 : M 25 (zSn z) = nI n) (h26 : M 26 (zSn z) = 0) (hc : 2 * c ≤ s) (ht : 0 < zTn z) (hal : ∀ a, zAl z (zTn z - 1) = some a → a < 2 ^ 30) (hx0 : wx sg s e 0) (h5 : I 5 = nI (w_w sg s e 0).2) (h7 : I 7 = nI (w_w sg s e 0).1) (h8 : I 8 = nI (w_w sg s e 0).2) (hG : mo_at G0 a A I J M W G) : cn_M l X m_Mo_step 4 0 0 [.ref a] G (st_Q G0 a A sg s e n c z I J M W) := by
  obtain ⟨p1, p2, p3, p4, p5, p6, p7, p8, p9, p10, p11, p12⟩ := id h
  have hke := mk_le hk hen
  have a0 := (w_w_b (sg := sg) hse 0).2.1
  have b0 := (w_w_b (sg := sg) hse 0).2.2.1
  refine cn_in rfl (Nat.le_of_ble_eq_true rfl) ?_
  refine ev_aload_n d_Mo_step_0 rfl rfl ?_
  refine ev_bipush (v := 115) d_Mo_step_1 (by decide) ?_
  refine ev_bipush (v := 101) d_Mo_step_3 (by decide) ?_
  refine ev_bipush (v := 116) d_Mo_step_5 (by decide) ?_
  refine ev_iconst (v := 0) d_Mo_step_7 (by decide) ?_
  refine ev_iconst (v := 0) d_Mo_step_8 (by decide) ?_
  refine ev_iconst (v := 0) d_Mo_step_9 (by decide) ?_
  refine ev_callV6 d_Mo_step_10 ck_Mo_is ml_Mo_177 im_Mo_is se_Mo_is rfl hG.1 (c_Mo_is (b := (w_w sg s e 0).1) (f := (w_w sg s e 0).2) 3 hG hk h7 h8 a0 (by omega) hn (by decide) (by decide)) (by omega) (Nat.le_of_ble_eq_true rfl) (by omega) (by omega) ?_
  rintro _ _ ⟨rfl, rfl⟩
  refine ev_if_eq 66 d_Mo_step_13 (by decide) (fun q3 => ?_) (fun q3 => ?_)
  · have q3 := cI_0 q3
    refine ev_aload_n d_Mo_step_66 rfl rfl ?_
    refine ev_bipush (v := 100) d_Mo_step_67 (by decide) ?_
    refine ev_bipush (v := 114) d_Mo_step_69 (by decide) ?_
    refine ev_bipush (v := 97) d_Mo_step_71 (by decide) ?_
    refine ev_bipush (v := 119) d_Mo_step_73 (by decide) ?_
    refine ev_iconst (v := 0) d_Mo_step_75 (by decide) ?_
    refine ev_iconst (v := 0) d_Mo_step_76 (by decide) ?_
    refine ev_callV6 d_Mo_step_77 ck_Mo_is ml_Mo_177 im_Mo_is se_Mo_is rfl hG.1 (c_Mo_is (b := (w_w sg s e 0).1) (f := (w_w sg s e 0).2) 4 hG hk h7 h8 a0 (by omega) hn (by decide) (by decide)) (by omega) (Nat.le_of_ble_eq_true rfl) (by omega) (by omega) ?_
    rintro _ _ ⟨rfl, rfl⟩
    refine ev_if_eq 167 d_Mo_step_80 (by decide) (fun q4 => ?_) (fun q4 => ?_)
    · have q4 := cI_0 q4
      refine ev_aload_n d_Mo_step_167 rfl rfl ?_
      refine ev_bipush (v := 119) d_Mo_step_168 (by decide) ?_
      refine ev_bipush (v := 97) d_Mo_step_170 (by decide) ?_
      refine ev_bipush (v := 105) d_Mo_step_172 (by decide) ?_
      refine ev_bipush (v := 116) d_Mo_step_174 (by decide) ?_
      refine ev_iconst (v := 0) d_Mo_step_176 (by decide) ?_
      refine ev_iconst (v := 0) d_Mo_step_177 (by decide) ?_
      refine ev_callV6 d_Mo_step_178 ck_Mo_is ml_Mo_177 im_Mo_is se_Mo_is rfl hG.1 (c_Mo_is (b := (w_w sg s e 0).1) (f := (w_w sg s e 0).2) 5 hG hk h7 h8 a0 (by omega) hn (by decide) (by decide)) (by omega) (Nat.le_of_ble_eq_true rfl) (by omega) (by omega) ?_
      rintro _ _ ⟨rfl, rfl⟩
      by_cases q5 : w_is sg s e 0 5
      · rw [cI_t (show wi_s sg (w_w sg s e 0).1 (w_w sg s e 0).2 5 from q5)]
        refine ev_istore_n d_Mo_step_181 rfl (by decide) ?_
        refine ev_iload_n d_Mo_step_182 rfl rfl ?_
        refine ev_if_ne 204 d_Mo_step_183 (by decide) (fun _ => ?_) (fun y => absurd y (by decide))
        refine ev_aload_n d_Mo_step_204 rfl rfl ?_
        refine em_getA (i := 24) hG d_Mo_step_205 fo_Mo_47 rfl ?_
        refine ev_aload_n d_Mo_step_208 rfl rfl ?_
        refine em_getI (i := 23) hG d_Mo_step_209 fo_Mo_174 rfl (by (repeat (first | apply va_up_t (h := by decide) | apply mo_w_t (h5 := by decide) (h7 := by decide) (h8 := by decide) | exact va_up_s | exact mo_w_5 | exact mo_w_7 | exact mo_w_8 | assumption)); all_goals rfl) ?_
        refine ev_iload_n d_Mo_step_212 rfl rfl ?_
        refine ev_if_eq 220 d_Mo_step_213 (by decide) (fun y => absurd y (by decide)) (fun _ => ?_)
        refine ev_iconst (v := 3) d_Mo_step_216 (by decide) ?_
        refine ev_goto 221 d_Mo_step_217 (by decide) ?_
        refine em_iast (i := 24) (N := 1200) hG d_Mo_step_221 rfl rfl (by decide) (by omega) (fun G hG => ?_)
        exact mo_s3 hk hz h h6 hse hen hn hsn h25 h26 hc h5 (w_kd_3 q5) hG
      · rw [cI_f (show ¬ wi_s sg (w_w sg s e 0).1 (w_w sg s e 0).2 5 from q5)]
        refine ev_istore_n d_Mo_step_181 rfl (by decide) ?_
        refine ev_iload_n d_Mo_step_182 rfl rfl ?_
        refine ev_if_ne 204 d_Mo_step_183 (by decide) (fun y => absurd rfl y) (fun _ => ?_)
        refine ev_aload_n d_Mo_step_186 rfl rfl ?_
        refine ev_bipush (v := 99) d_Mo_step_187 (by decide) ?_
        refine ev_bipush (v := 104) d_Mo_step_189 (by decide) ?_
        refine ev_bipush (v := 101) d_Mo_step_191 (by decide) ?_
        refine ev_bipush (v := 99) d_Mo_step_193 (by decide) ?_
        refine ev_bipush (v := 107) d_Mo_step_195 (by decide) ?_
        refine ev_iconst (v := 0) d_Mo_step_197 (by decide) ?_
        refine ev_callV6 d_Mo_step_198 ck_Mo_is ml_Mo_177 im_Mo_is se_Mo_is rfl hG.1 (c_Mo_is (b := (w_w sg s e 0).1) (f := (w_w sg s e 0).2) 6 hG hk h7 h8 a0 (by omega) hn (by decide) (by decide)) (by omega) (Nat.le_of_ble_eq_true rfl) (by omega) (by omega) ?_
        rintro _ _ ⟨rfl, rfl⟩
        refine ev_if_eq 299 d_Mo_step_201 (by decide) (fun q6 => ?_) (fun q6 => ?_)
        · have q6 := cI_0 q6
          refine ev_aload_n d_Mo_step_299 rfl rfl ?_
          refine ev_bipush (v := 102) d_Mo_step_300 (by decide) ?_
          refine ev_bipush (v := 97) d_Mo_step_302 (by decide) ?_
          refine ev_bipush (v := 117) d_Mo_step_304 (by decide) ?_
          refine ev_bipush (v := 108) d_Mo_step_306 (by decide) ?_
          refine ev_bipush (v := 116) d_Mo_step_308 (by decide) ?_
          refine ev_iconst (v := 0) d_Mo_step_310 (by decide) ?_
          refine ev_callV6 d_Mo_step_311 ck_Mo_is ml_Mo_177 im_Mo_is se_Mo_is rfl hG.1 (c_Mo_is (b := (w_w sg s e 0).1) (f := (w_w sg s e 0).2) 7 hG hk h7 h8 a0 (by omega) hn (by decide) (by decide)) (by omega) (Nat.le_of_ble_eq_true rfl) (by omega) (by omega) ?_
          rintro _ _ ⟨rfl, rfl⟩
          refine ev_if_eq 440 d_Mo_step_314 (by decide) (fun q7 => ?_) (fun q7 => ?_)
          · have q7 := cI_0 q7
            have hno : ∀ i, 3 ≤ i → i ≤ 7 → ¬ w_is sg s e 0 i := by
              intro i i1 i2
              have : i = 3 ∨ i = 4 ∨ i = 5 ∨ i = 6 ∨ i = 7 := by omega
              rcases this with rfl | rfl | rfl | rfl | rfl
              · exact q3
              · exact q4
              · exact q5
              · exact q6
              · exact q7
            refine ev_aload_n d_Mo_step_440 rfl rfl ?_
            refine ev_callV0 d_Mo_step_441 ck_Mo_block ml_Mo_215 im_Mo_block se_Mo_block rfl hG.1 (c_Mo_block hk hz h h6 hse hen hn hsn h25 h26 hc ht hal hx0 h5 h7 h8 hno hG) (by omega) (Nat.le_of_ble_eq_true rfl) (by omega) (by omega) ?_
            rintro _ G ⟨P, I', J', M', W', rfl, y⟩
            exact ev_zret d_Mo_step_444 rfl cI_n ⟨P, I', J', M', W', rfl, y⟩
          · have q7 := cI_1 q7
            refine ev_aload_n d_Mo_step_317 rfl rfl ?_
            refine em_getA (i := 24) hG d_Mo_step_318 fo_Mo_47 rfl ?_
            refine ev_aload_n d_Mo_step_321 rfl rfl ?_
            refine em_getI (i := 23) hG d_Mo_step_322 fo_Mo_174 rfl (by (repeat (first | apply va_up_t (h := by decide) | apply mo_w_t (h5 := by decide) (h7 := by decide) (h8 := by decide) | exact va_up_s | exact mo_w_5 | exact mo_w_7 | exact mo_w_8 | assumption)); all_goals rfl) ?_
            refine ev_iconst (v := 4) d_Mo_step_325 (by decide) ?_
            refine em_iast (i := 24) (N := 1200) hG d_Mo_step_326 rfl rfl (by decide) (by omega) (fun G hG => ?_)
            exact mo_s5 hk hz h h6 hse hen hn hsn h25 h26 hc h5 (w_kd_5 q7) hG
        · have q6 := cI_1 q6
          refine ev_aload_n d_Mo_step_204 rfl rfl ?_
          refine em_getA (i := 24) hG d_Mo_step_205 fo_Mo_47 rfl ?_
          refine ev_aload_n d_Mo_step_208 rfl rfl ?_
          refine em_getI (i := 23) hG d_Mo_step_209 fo_Mo_174 rfl (by (repeat (first | apply va_up_t (h := by decide) | apply mo_w_t (h5 := by decide) (h7 := by decide) (h8 := by decide) | exact va_up_s | exact mo_w_5 | exact mo_w_7 | exact mo_w_8 | assumption)); all_goals rfl) ?_
          refine ev_iload_n d_Mo_step_212 rfl rfl ?_
          refine ev_if_eq 220 d_Mo_step_213 (by decide) (fun _ => ?_) (fun y => absurd rfl y)
          refine ev_iconst (v := 2) d_Mo_step_220 (by decide) ?_
          refine em_iast (i := 24) (N := 1200) hG d_Mo_step_221 rfl rfl (by decide) (by omega) (fun G hG => ?_)
          exact mo_s4 hk hz h h6 hse hen hn hsn h25 h26 hc h5 (w_kd_4 q6) hG
    · have q4 := cI_1 q4
      refine ev_aload_n d_Mo_step_83 rfl rfl ?_
      refine em_getA (i := 24) hG d_Mo_step_84 fo_Mo_47 rfl ?_
      refine ev_aload_n d_Mo_step_87 rfl rfl ?_
      refine em_getI (i := 23) hG d_Mo_step_88 fo_Mo_174 rfl (by (repeat (first | apply va_up_t (h := by decide) | apply mo_w_t (h5 := by decide) (h7 := by decide) (h8 := by decide) | exact va_up_s | exact mo_w_5 | exact mo_w_7 | exact mo_w_8 | assumption)); all_goals rfl) ?_
      refine ev_iconst (v := 1) d_Mo_step_91 (by decide) ?_
      refine em_iast (i := 24) (N := 1200) hG d_Mo_step_92 rfl rfl (by decide) (by omega) (fun G hG => ?_)
      exact mo_s2 hk hz h h6 hse hen hn hsn h25 h26 hc h5 (w_kd_2 q4) hG
  · have q3 := cI_1 q3
    refine ev_aload_n d_Mo_step_16 rfl rfl ?_
    refine em_getA (i := 24) hG d_Mo_step_17 fo_Mo_47 rfl ?_
    refine ev_aload_n d_Mo_step_20 rfl rfl ?_
    refine em_getI (i := 23) hG d_Mo_step_21 fo_Mo_174 rfl (by (repeat (first | apply va_up_t (h := by decide) | apply mo_w_t (h5 := by decide) (h7 := by decide) (h8 := by decide) | exact va_up_s | exact mo_w_5 | exact mo_w_7 | exact mo_w_8 | assumption)); all_goals rfl) ?_
    refine ev_iconst (v := 0) d_Mo_step_24 (by decide) ?_
    refine em_iast (i := 24) (N := 1200) hG d_Mo_step_25 rfl rfl (by decide) (by omega) (fun G hG => ?_)
    exact mo_s1 hk hz h h6 hse hen hn hsn h25 h26 hc h5 (w_kd_1 q3) hG
end SB
