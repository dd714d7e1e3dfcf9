/-! THE MODEL RUNS: simple -/
section SI
variable {l : Launch} {X : pm_X} {G G0 : pm_G} {a : Nat} {A : Nat → Nat} {I : Nat → Int32} {J : Nat → Int64} {M : Nat → Nat → Int32} {W : Nat → Nat → Int64} {z : pz} {r t s c nl n N : Nat} {g nf : Nat → Int32} {q : rs_T} {kf : Nat → Nat} {vf : Nat → Int32} {av at' : Nat → Nat} {ax : Nat → Int32}
theorem lvI_n {I : Nat → Int32} {N i : Nat} (h : i ≠ 51) : lv_I I N i = I i := by
  unfold lv_I
  split
  · exact va_up_n h
  · rfl
theorem mg_lvI {r t : Nat} {I I' : Nat → Int32} {J J' : Nat → Int64} {M M' : Nat → Nat → Int32} {W W' : Nat → Nat → Int64} {N : Nat} (h : mg_fr r t I I' J J' M M' W W') : mg_fr r t I (lv_I I' N) J J' M M' W W' := ⟨fun i a b c => (lvI_n a).trans (h.1 i a b c), h.2⟩
set_option maxHeartbeats 800000 in
theorem c_Mo_leaveR {p : Prop} {ve li : Int32} {be : Nat} (hG : mo_at G0 a A I J M W G) (hm : mr_ok z r t q I J M W) (hL : qL q = -1 ∨ ∃ k, k ≤ 2000 ∧ qL q = nI k) (hw : (qW q).1 = 0 ∨ (qW q).1 = 1 ∨ (qW q).1 = 2) (hr : r < 8) (ht : t ≤ 12) (hN : be + 1 = qN q) (hT : qT q < 2 ^ 31) (h54 : I 54 = li) (hve : ve ≠ 0) : cn_M l X m_Mo_leave 0 0 0 [.ref a, .int (cI p), .int ve, .int (nI t)] G (fun y G' => y = none ∧ ∃ I' M' W', mo_at G0 a A I' J M' W' G' ∧ mg_fr r t I I' J J M M' W W' ∧ M' 37 = M 37 ∧ M' 59 = M 59 ∧ ((¬ p ∧ I' 55 = I 55 ∧ mr_ok z r t q I' J M' W') ∨ (p ∧ I' 55 = 1 ∧ mr_ok z r t (rs_leave ve li be q) I' J M' W'))) := by
  obtain ⟨a1, a2, a3, a4, a5, a6, a7, a8, a9, a10, a11, a12, a13⟩ := id hm
  refine cn_post (c_Mo_leave (p := p) (ve := ve) (w := (qW q).1) hG a1 hr a7 (by omega) ht a10 h54) ?_
  rintro y G' ⟨rfl, h | h | h⟩
  · exact ⟨rfl, _, _, _, h.2, mg_fr.rf, rfl, rfl, Or.inl ⟨h.1, rfl, hm⟩⟩
  · refine ⟨rfl, _, _, _, h.2.2, mg_fr.rf.i (by decide), rfl, rfl, Or.inr ⟨h.1, va_up_s, mr_oc (mr_lv0 (fun y => ?_) hm)⟩⟩
    rw [y] at h
    exact absurd h.2.1 (by decide)
  · have hw0 : (qW q).1 = 0 := by
      rcases hw with y | y | y
      · exact y
      · rw [y] at h; exact absurd (by decide) h.2.1
      · rw [y] at h; exact absurd (by decide) h.2.1
    exact ⟨rfl, _, _, _, h.2.2, mg_lvI (mg_fr.lv (mg_fr.rf.i (by decide))), rfl, rfl, Or.inr ⟨h.1, (lvI_n (by decide)).trans va_up_s, mr_lv1 hN hT hve hw0 hL (mr_oc hm)⟩⟩
/-- what simple comes to -/
def si_Q (G0 : pm_G) (a : Nat) (A : Nat → Nat) (z : pz) (r t : Nat) (q : rs_T) (I : Nat → Int32) (J : Nat → Int64) (M : Nat → Nat → Int32) (W : Nat → Nat → Int64) (d : rs_T × Bool) (y : Option Value) (G' : pm_G) : Prop := y = none ∧ ∃ I' J' M' W', mo_at G0 a A I' J' M' W' G' ∧ mg_fr r t I I' J J' M M' W W' ∧ M' 37 = M 37 ∧ M' 59 = M 59 ∧ ((qN q = 2000 ∧ I' 55 = 2 ∧ mr_ok z r t q I' J' M' W') ∨ (qN q < 2000 ∧ ∃ q1 gd, d = (if gd = true then rs_tick q1 else q1, gd) ∧ I' 55 = (if gd = true then 0 else 1) ∧ mr_ok z r t q1 I' J' M' W'))

set_option maxHeartbeats 1000000 in
theorem mo_si1 (hG : mo_at G0 a A I J M W G) (hm : mr_ok z r t q I J M W) (hq : rq_ok q) (hr : r < 8) (ht : t ≤ 12) (hs : s < 1200) (hms : ms_ok M W c s g nl nf) (hsk : sk_ok g nl nf) (ha : ma_at N av at' ax I M W) (hok : ma_ok N n kf vf av at' ax) (h55 : I 55 = 0) (hk : g 0 = 1) : ev_W l X m_Mo_simple 3 0 0 (si_Q G0 a A z r t q I J M W (rs_do n kf vf s g q)) 0 0 0 [(0, .ref a), (1, .int (nI s)), (2, .int (nI t))] [] G := by
  obtain ⟨a1, a2, a3, a4, a5, a6, a7, a8, a9, a10, a11, a12, a13⟩ := id hm
  obtain ⟨q1, q2, q3, q4, q5, q6, q7⟩ := id hq
  obtain ⟨m24, m25, m26, m27, m28, m29, -, -⟩ := hms
  obtain ⟨k1, k2, k3, k4, k5, k6, k7, k8, k9⟩ := hsk
  have hT31 : qT q < 2 ^ 25 := by omega
  replace m24 : M 24 s = 0 := by rw [m24, hk]; decide
  obtain ⟨v, v0, v20, hv⟩ := k1.1 (Or.inl hk)
  have hvc : (g 2).toNatClampNeg = v := by rw [hv, nI_clamp (by omega)]
  rw [hv] at m26
  replace m27 := m27 (Or.inl hk)
  have ed : rs_do n kf vf s g q = (rs_tick (rs_row (g 1) (g 4) (rs_set v (g 4) (rs_begun s q))), true) := by
    unfold rs_do
    rw [if_pos hk, hvc]
  refine ev_aload_n d_Mo_simple_0 rfl rfl ?_
  refine em_getA (i := 24) hG d_Mo_simple_1 fo_Mo_47 rfl ?_
  refine ev_iload_n d_Mo_simple_4 rfl rfl ?_
  refine em_iald (i := 24) (N := 1200) hG d_Mo_simple_5 rfl rfl (by decide) (by omega) (by (repeat (first | apply va_up_mt (h := by decide) | apply va_up_ms | apply pk_ut (h := by omega) | apply pk_uLt (h := by omega) | exact pk_us | exact pk_uLs | assumption)); all_goals rfl) ?_
  refine ev_if_ne 23 d_Mo_simple_6 (by decide) (fun y => absurd rfl y) (fun _ => ?_)
  refine ev_aload_n d_Mo_simple_9 rfl rfl ?_
  refine ev_iload_n d_Mo_simple_10 rfl rfl ?_
  refine ev_aload_n d_Mo_simple_11 rfl rfl ?_
  refine em_getA (i := 27) hG d_Mo_simple_12 fo_Mo_56 rfl ?_
  refine ev_iload_n d_Mo_simple_15 rfl rfl ?_
  refine em_lald (i := 27) (N := 1200) hG d_Mo_simple_16 rfl rfl (by decide) (by omega) (by (repeat (first | apply va_up_mt (h := by decide) | apply va_up_ms | apply pk_ut (h := by omega) | apply pk_uLt (h := by omega) | exact pk_us | exact pk_uLs | assumption)); all_goals rfl) ?_
  refine ev_callV2 d_Mo_simple_17 ck_Mo_setting ml_Mo_269 im_Mo_setting se_Mo_setting rfl hG.1 (c_Mo_setting hG a1 hr a7 q1 hs m25 m26 v20) (by omega) (Nat.le_of_ble_eq_true rfl) (by omega) (by omega) ?_
  rintro _ G ⟨rfl, ⟨hN, hG⟩ | ⟨hN, hG⟩⟩
  · refine ev_goto 271 d_Mo_simple_20 (by decide) ?_
    exact ev_vret d_Mo_simple_271 rfl ⟨rfl, _, _, _, _, hG, (by repeat (first | exact mg_fr.rf | refine mg_fr.row ?_ | refine mg_fr.set ?_ | refine mg_fr.lv ?_ | refine mg_fr.i ?_ (by decide) | refine mg_fr.j ?_ (by decide) | refine mg_fr.m ?_ (by decide))), rfl, rfl, Or.inl ⟨hN, va_up_s, mr_oc hm⟩⟩
  · refine ev_goto 271 d_Mo_simple_20 (by decide) ?_
    refine ev_vret d_Mo_simple_271 rfl ⟨rfl, _, _, _, _, hG, (by repeat (first | exact mg_fr.rf | refine mg_fr.row ?_ | refine mg_fr.set ?_ | refine mg_fr.lv ?_ | refine mg_fr.i ?_ (by decide) | refine mg_fr.j ?_ (by decide) | refine mg_fr.m ?_ (by decide))), rfl, rfl, Or.inr ⟨hN, rs_set v (g 4) (rs_row (g 1) (g 4) (rs_begun s q)), true, ed, ?_, ?_⟩⟩
    · exact (va_up_n (by decide)).trans h55
    · exact mr_set rfl (by show qT q < 2 ^ 31; omega) (mr_row (q := rs_begun s q) rfl (by show qT q < 2 ^ 31; omega) (mr_begun hm))
set_option maxHeartbeats 1000000 in
theorem mo_si2 (hG : mo_at G0 a A I J M W G) (hm : mr_ok z r t q I J M W) (hq : rq_ok q) (hr : r < 8) (ht : t ≤ 12) (hs : s < 1200) (hms : ms_ok M W c s g nl nf) (hsk : sk_ok g nl nf) (ha : ma_at N av at' ax I M W) (hok : ma_ok N n kf vf av at' ax) (h55 : I 55 = 0) (hk : g 0 = 2) : ev_W l X m_Mo_simple 3 0 0 (si_Q G0 a A z r t q I J M W (rs_do n kf vf s g q)) 0 0 0 [(0, .ref a), (1, .int (nI s)), (2, .int (nI t))] [] G := by
  obtain ⟨a1, a2, a3, a4, a5, a6, a7, a8, a9, a10, a11, a12, a13⟩ := id hm
  obtain ⟨q1, q2, q3, q4, q5, q6, q7⟩ := id hq
  obtain ⟨m24, m25, m26, m27, m28, m29, -, -⟩ := hms
  obtain ⟨k1, k2, k3, k4, k5, k6, k7, k8, k9⟩ := hsk
  have hT31 : qT q < 2 ^ 25 := by omega
  replace m24 : M 24 s = 1 := by rw [m24, hk]; decide
  obtain ⟨v, v0, v20, hv⟩ := k1.1 (Or.inr (Or.inl hk))
  have hvc : (g 2).toNatClampNeg = v := by rw [hv, nI_clamp (by omega)]
  rw [hv] at m26
  replace m27 := m27 (Or.inr (Or.inl hk))
  replace m28 := m28 (Or.inl hk)
  have ed : rs_do n kf vf s g q = (rs_tick (rs_row (g 1) (rs_dv (g 4) (g 5) (rs_dr (rs_begun s q))) (rs_set v (rs_dv (g 4) (g 5) (rs_dr (rs_begun s q))) (rs_drawn (rs_begun s q)))), true) := by
    unfold rs_do
    rw [if_neg (by rw [hk]; decide), if_pos hk, hvc]
  obtain ⟨y0, hy0⟩ : ∃ y, J 53 = y := ⟨_, rfl⟩
  refine ev_aload_n d_Mo_simple_0 rfl rfl ?_
  refine em_getA (i := 24) hG d_Mo_simple_1 fo_Mo_47 rfl ?_
  refine ev_iload_n d_Mo_simple_4 rfl rfl ?_
  refine em_iald (i := 24) (N := 1200) hG d_Mo_simple_5 rfl rfl (by decide) (by omega) (by (repeat (first | apply va_up_mt (h := by decide) | apply va_up_ms | apply pk_ut (h := by omega) | apply pk_uLt (h := by omega) | exact pk_us | exact pk_uLs | assumption)); all_goals rfl) ?_
  refine ev_if_ne 23 d_Mo_simple_6 (by decide) (fun _ => ?_) (fun y => absurd y (by decide))
  refine ev_aload_n d_Mo_simple_23 rfl rfl ?_
  refine em_getA (i := 24) hG d_Mo_simple_24 fo_Mo_47 rfl ?_
  refine ev_iload_n d_Mo_simple_27 rfl rfl ?_
  refine em_iald (i := 24) (N := 1200) hG d_Mo_simple_28 rfl rfl (by decide) (by omega) (by (repeat (first | apply va_up_mt (h := by decide) | apply va_up_ms | apply pk_ut (h := by omega) | apply pk_uLt (h := by omega) | exact pk_us | exact pk_uLs | assumption)); all_goals rfl) ?_
  refine ev_iconst (v := 1) d_Mo_simple_29 (by decide) ?_
  refine ev_icmp_ne 92 d_Mo_simple_30 (by decide) (fun y => absurd rfl y) (fun _ => ?_)
  refine ev_aload_n d_Mo_simple_33 rfl rfl ?_
  refine ev_aload_n d_Mo_simple_34 rfl rfl ?_
  refine em_getJ (i := 53) hG d_Mo_simple_35 fo_Mo_272 rfl (by (repeat (first | apply va_up_t (h := by decide) | apply mo_w_t (h5 := by decide) (h7 := by decide) (h8 := by decide) | exact va_up_s | exact mo_w_5 | exact mo_w_7 | exact mo_w_8 | assumption)); all_goals rfl) ?_
  refine ev_ldc2 d_Mo_simple_38 hw_1248 ?_
  refine ev_lmul d_Mo_simple_41 ?_
  refine ev_ldc2 d_Mo_simple_42 hw_1249 ?_
  refine ev_ladd d_Mo_simple_45 ?_
  refine ev_ldc2 d_Mo_simple_46 hw_1250 ?_
  refine ev_lrem d_Mo_simple_49 (by decide) ?_
  refine em_putJ (i := 53) hG d_Mo_simple_50 fo_Mo_272 rfl rfl (by decide) mv_53 (fun G hG => ?_)
  refine ev_aload_n d_Mo_simple_53 rfl rfl ?_
  refine ev_iload_n d_Mo_simple_54 rfl rfl ?_
  refine ev_aload_n d_Mo_simple_55 rfl rfl ?_
  refine em_getA (i := 27) hG d_Mo_simple_56 fo_Mo_56 rfl ?_
  refine ev_iload_n d_Mo_simple_59 rfl rfl ?_
  refine em_lald (i := 27) (N := 1200) hG d_Mo_simple_60 rfl rfl (by decide) (by omega) (by (repeat (first | apply va_up_mt (h := by decide) | apply va_up_ms | apply pk_ut (h := by omega) | apply pk_uLt (h := by omega) | exact pk_us | exact pk_uLs | assumption)); all_goals rfl) ?_
  refine ev_aload_n d_Mo_simple_61 rfl rfl ?_
  refine em_getJ (i := 53) hG d_Mo_simple_62 fo_Mo_272 rfl (by (repeat (first | apply va_up_t (h := by decide) | apply mo_w_t (h5 := by decide) (h7 := by decide) (h8 := by decide) | exact va_up_s | exact mo_w_5 | exact mo_w_7 | exact mo_w_8 | assumption)); all_goals rfl) ?_
  refine ev_ldc2 d_Mo_simple_65 hw_1251 ?_
  refine ev_ldiv d_Mo_simple_68 (by decide) ?_
  refine ev_aload_n d_Mo_simple_69 rfl rfl ?_
  refine em_getA (i := 28) hG d_Mo_simple_70 fo_Mo_59 rfl ?_
  refine ev_iload_n d_Mo_simple_73 rfl rfl ?_
  refine em_lald (i := 28) (N := 1200) hG d_Mo_simple_74 rfl rfl (by decide) (by omega) (by (repeat (first | apply va_up_mt (h := by decide) | apply va_up_ms | apply pk_ut (h := by omega) | apply pk_uLt (h := by omega) | exact pk_us | exact pk_uLs | assumption)); all_goals rfl) ?_
  refine ev_aload_n d_Mo_simple_75 rfl rfl ?_
  refine em_getA (i := 27) hG d_Mo_simple_76 fo_Mo_56 rfl ?_
  refine ev_iload_n d_Mo_simple_79 rfl rfl ?_
  refine em_lald (i := 27) (N := 1200) hG d_Mo_simple_80 rfl rfl (by decide) (by omega) (by (repeat (first | apply va_up_mt (h := by decide) | apply va_up_ms | apply pk_ut (h := by omega) | apply pk_uLt (h := by omega) | exact pk_us | exact pk_uLs | assumption)); all_goals rfl) ?_
  refine ev_lsub d_Mo_simple_81 ?_
  refine ev_lconst (v := 1) d_Mo_simple_82 (by decide) ?_
  refine ev_ladd d_Mo_simple_83 ?_
  obtain ⟨e1, e2, e3⟩ := k5 hk
  obtain ⟨d, d1, d2⟩ := q5
  obtain ⟨d', f1, f2, f3⟩ := dr_is d1
  obtain ⟨m, g1, g2, g3, g4, g5⟩ := dv_is e1 e2 e3 f1
  have er : rs_dr q = lN d' := by show (qD q * 25173 + 13849) &&& 4294967295 = lN d'; rw [d2]; exact f2
  have hm0 : ¬ lN m = 0 := fun y => by have := (pk_lEQ (a := m) (b := 0) (by omega) (by omega)).mp y; omega
  rw [g3]
  refine ev_lrem d_Mo_simple_84 hm0 ?_
  refine ev_ladd d_Mo_simple_85 ?_
  refine ev_callV2 d_Mo_simple_86 ck_Mo_setting ml_Mo_269 im_Mo_setting se_Mo_setting rfl hG.1 (c_Mo_setting hG a1 hr a7 q1 hs m25 m26 v20) (by omega) (Nat.le_of_ble_eq_true rfl) (by omega) (by omega) ?_
  rintro _ G ⟨rfl, ⟨hN, hG⟩ | ⟨hN, hG⟩⟩
  · refine ev_goto 271 d_Mo_simple_89 (by decide) ?_
    refine ev_vret d_Mo_simple_271 rfl ⟨rfl, _, _, _, _, hG, (by repeat (first | exact mg_fr.rf | refine mg_fr.row ?_ | refine mg_fr.set ?_ | refine mg_fr.lv ?_ | refine mg_fr.i ?_ (by decide) | refine mg_fr.j ?_ (by decide) | refine mg_fr.m ?_ (by decide))), rfl, rfl, Or.inl ⟨hN, va_up_s, mr_oc ?_⟩⟩
    exact ⟨a1, fun y => by omega, a3, a4, a5, a6, a7, a8, a9, a10, a11, a12, a13⟩
  · have y1 : y0 = lN d := by rw [← hy0, a2 hN, d2]
    have y2 : y0 * 25173 + 13849 - (y0 * 25173 + 13849) / 4294967296 * 4294967296 = lN d' := by rw [y1]; exact f3
    have y3 : (g 4).toInt64 + (lN d' / 65536 - lN d' / 65536 / lN m * lN m) = (rs_dv (g 4) (g 5) (rs_dr (rs_begun s q))).toInt64 := by
      rw [show rs_dr (rs_begun s q) = lN d' from er, ← g4, show (65536 : Int64) = lN 65536 from rfl, pk_lDiv (by omega) (by omega) (by omega), pk_lRem (by omega) (by omega) (by omega)]
    rw [y2, y3] at hG
    refine ev_goto 271 d_Mo_simple_89 (by decide) ?_
    refine ev_vret d_Mo_simple_271 rfl ⟨rfl, _, _, _, _, hG, (by repeat (first | exact mg_fr.rf | refine mg_fr.row ?_ | refine mg_fr.set ?_ | refine mg_fr.lv ?_ | refine mg_fr.i ?_ (by decide) | refine mg_fr.j ?_ (by decide) | refine mg_fr.m ?_ (by decide))), rfl, rfl, Or.inr ⟨hN, rs_set v (rs_dv (g 4) (g 5) (rs_dr (rs_begun s q))) (rs_row (g 1) (rs_dv (g 4) (g 5) (rs_dr (rs_begun s q))) (rs_drawn (rs_begun s q))), true, ed, ?_, ?_⟩⟩
    · exact (va_up_n (by decide)).trans h55
    · exact mr_set rfl (by show qT q < 2 ^ 31; omega) (mr_row (q := rs_drawn (rs_begun s q)) rfl (by show qT q < 2 ^ 31; omega) (mr_drawn (q := rs_begun s q) (fun _ => er.symm) (mr_begun hm)))
set_option maxHeartbeats 1000000 in
theorem mo_si5 (hG : mo_at G0 a A I J M W G) (hm : mr_ok z r t q I J M W) (hq : rq_ok q) (hr : r < 8) (ht : t ≤ 12) (hs : s < 1200) (hms : ms_ok M W c s g nl nf) (hsk : sk_ok g nl nf) (ha : ma_at N av at' ax I M W) (hok : ma_ok N n kf vf av at' ax) (h55 : I 55 = 0) (hk : g 0 = 5) : ev_W l X m_Mo_simple 3 0 0 (si_Q G0 a A z r t q I J M W (rs_do n kf vf s g q)) 0 0 0 [(0, .ref a), (1, .int (nI s)), (2, .int (nI t))] [] G := by
  obtain ⟨a1, a2, a3, a4, a5, a6, a7, a8, a9, a10, a11, a12, a13⟩ := id hm
  obtain ⟨q1, q2, q3, q4, q5, q6, q7⟩ := id hq
  obtain ⟨m24, m25, m26, m27, m28, m29, -, -⟩ := hms
  obtain ⟨k1, k2, k3, k4, k5, k6, k7, k8, k9⟩ := hsk
  have hT31 : qT q < 2 ^ 25 := by omega
  replace m24 : M 24 s = 4 := by rw [m24, hk]; decide
  replace m27 := m27 (Or.inr (Or.inr (Or.inr (Or.inr hk))))
  replace m28 := m28 (Or.inr (Or.inr hk))
  obtain ⟨⟨f, f1, f8, hf⟩, g01⟩ := k6 hk
  rw [hf] at m27
  have ed : rs_do n kf vf s g q = (rs_tick (rs_row (g 1) 0 (rs_fault (if g 5 = 1 then qF q ||| (1 : Int32) <<< (nI f &&& 31) else qF q &&& ((1 : Int32) <<< (nI f &&& 31) ^^^ (-1))) (rs_begun s q))), true) := by
    unfold rs_do
    rw [if_neg (by rw [hk]; decide), if_neg (by rw [hk]; decide), if_neg (by rw [hk]; decide), if_neg (by rw [hk]; decide), if_pos hk, hf]
  refine ev_aload_n d_Mo_simple_0 rfl rfl ?_
  refine em_getA (i := 24) hG d_Mo_simple_1 fo_Mo_47 rfl ?_
  refine ev_iload_n d_Mo_simple_4 rfl rfl ?_
  refine em_iald (i := 24) (N := 1200) hG d_Mo_simple_5 rfl rfl (by decide) (by omega) (by (repeat (first | apply va_up_mt (h := by decide) | apply va_up_ms | apply pk_ut (h := by omega) | apply pk_uLt (h := by omega) | exact pk_us | exact pk_uLs | assumption)); all_goals rfl) ?_
  refine ev_if_ne 23 d_Mo_simple_6 (by decide) (fun _ => ?_) (fun y => absurd y (by decide))
  refine ev_aload_n d_Mo_simple_23 rfl rfl ?_
  refine em_getA (i := 24) hG d_Mo_simple_24 fo_Mo_47 rfl ?_
  refine ev_iload_n d_Mo_simple_27 rfl rfl ?_
  refine em_iald (i := 24) (N := 1200) hG d_Mo_simple_28 rfl rfl (by decide) (by omega) (by (repeat (first | apply va_up_mt (h := by decide) | apply va_up_ms | apply pk_ut (h := by omega) | apply pk_uLt (h := by omega) | exact pk_us | exact pk_uLs | assumption)); all_goals rfl) ?_
  refine ev_iconst (v := 1) d_Mo_simple_29 (by decide) ?_
  refine ev_icmp_ne 92 d_Mo_simple_30 (by decide) (fun _ => ?_) (fun y => absurd y (by decide))
  refine ev_aload_n d_Mo_simple_92 rfl rfl ?_
  refine ev_iload_n d_Mo_simple_93 rfl rfl ?_
  refine ev_callV1 d_Mo_simple_94 ck_Mo_begin ml_Mo_259 im_Mo_begin se_Mo_begin rfl hG.1 (c_Mo_begin hG a1 hr a7 q1 hs m25) (by omega) (Nat.le_of_ble_eq_true rfl) (by omega) (by omega) ?_
  rintro _ G (⟨hN, rfl, hG⟩ | ⟨hN, rfl, hG⟩)
  · refine ev_if_eq 271 d_Mo_simple_97 (by decide) (fun _ => ?_) (fun y => absurd rfl y)
    exact ev_vret d_Mo_simple_271 rfl ⟨rfl, _, _, _, _, hG, (by repeat (first | exact mg_fr.rf | refine mg_fr.row ?_ | refine mg_fr.set ?_ | refine mg_fr.lv ?_ | refine mg_fr.i ?_ (by decide) | refine mg_fr.j ?_ (by decide) | refine mg_fr.m ?_ (by decide))), rfl, rfl, Or.inl ⟨hN, va_up_s, mr_oc hm⟩⟩
  · refine ev_if_eq 271 d_Mo_simple_97 (by decide) (fun y => absurd y (by decide)) (fun _ => ?_)
    have hb := mr_begun (s := s) (li := g 1) hm
    refine ev_aload_n d_Mo_simple_100 rfl rfl ?_
    refine em_getA (i := 24) hG d_Mo_simple_101 fo_Mo_47 rfl ?_
    refine ev_iload_n d_Mo_simple_104 rfl rfl ?_
    refine em_iald (i := 24) (N := 1200) hG d_Mo_simple_105 rfl rfl (by decide) (by omega) (by (repeat (first | apply va_up_mt (h := by decide) | apply va_up_ms | apply pk_ut (h := by omega) | apply pk_uLt (h := by omega) | exact pk_us | exact pk_uLs | assumption)); all_goals rfl) ?_
    refine ev_iconst (v := 3) d_Mo_simple_106 (by decide) ?_
    refine ev_icmp_ne 152 d_Mo_simple_107 (by decide) (fun _ => ?_) (fun y => absurd y (by decide))
    have b44 : va_up I 54 (g 1) 44 = nI (r + 1) := (by (repeat (first | apply va_up_t (h := by decide) | apply mo_w_t (h5 := by decide) (h7 := by decide) (h8 := by decide) | exact va_up_s | exact mo_w_5 | exact mo_w_7 | exact mo_w_8 | assumption)); all_goals rfl)
    have b45 : va_up M 33 (upd (M 33) s 1) 45 r = nI (qN q) := a7
    have b25 : va_up M 33 (upd (M 33) s 1) 25 s = g 1 := m25
    refine ev_aload_n d_Mo_simple_152 rfl rfl ?_
    refine ev_iload_n d_Mo_simple_153 rfl rfl ?_
    refine ev_lconst (v := 0) d_Mo_simple_154 (by decide) ?_
    refine ev_callV2 d_Mo_simple_155 ck_Mo_row ml_Mo_262 im_Mo_row se_Mo_row rfl hG.1 (c_Mo_row hG b44 hr b45 hN hs b25) (by omega) (Nat.le_of_ble_eq_true rfl) (by omega) (by omega) ?_
    rintro _ G ⟨rfl, hG⟩
    have hrow := mr_row (q := rs_begun s q) (li := g 1) (x := 0) (X := 0) (by decide) (by show qT q < 2 ^ 31; omega) hb
    have w24 : mw_M (va_up M 33 (upd (M 33) s 1)) r (qN q) (g 1) 24 s = 4 := m24
    have w27 : mw_W W J r (qN q) 0 27 s = (nI f).toInt64 := m27
    have w28 : mw_W W J r (qN q) 0 28 s = (g 5).toInt64 := m28
    refine ev_aload_n d_Mo_simple_158 rfl rfl ?_
    refine em_getA (i := 24) hG d_Mo_simple_159 fo_Mo_47 rfl ?_
    refine ev_iload_n d_Mo_simple_162 rfl rfl ?_
    refine em_iald (i := 24) (N := 1200) hG d_Mo_simple_163 rfl rfl (by decide) (by omega) (by (repeat (first | apply va_up_mt (h := by decide) | apply va_up_ms | apply pk_ut (h := by omega) | apply pk_uLt (h := by omega) | exact pk_us | exact pk_uLs | assumption)); all_goals rfl) ?_
    refine ev_iconst (v := 4) d_Mo_simple_164 (by decide) ?_
    refine ev_icmp_ne 196 d_Mo_simple_165 (by decide) (fun y => absurd rfl y) (fun _ => ?_)
    refine ev_aload_n d_Mo_simple_168 rfl rfl ?_
    refine em_getA (i := 56) hG d_Mo_simple_169 fo_Mo_115 rfl ?_
    refine ev_aload_n d_Mo_simple_172 rfl rfl ?_
    refine em_getA (i := 27) hG d_Mo_simple_173 fo_Mo_56 rfl ?_
    refine ev_iload_n d_Mo_simple_176 rfl rfl ?_
    refine em_lald (i := 27) (N := 1200) hG d_Mo_simple_177 rfl rfl (by decide) (by omega) (by (repeat (first | apply va_up_mt (h := by decide) | apply va_up_ms | apply pk_ut (h := by omega) | apply pk_uLt (h := by omega) | exact pk_us | exact pk_uLs | assumption)); all_goals rfl) ?_
    refine ev_l2i d_Mo_simple_178 ?_
    rw [i64_i32]
    have fin : ∀ (y m : Int32) (G : pm_G), (if g 5 = 1 then qF q ||| (1 : Int32) <<< (nI f &&& 31) else qF q &&& ((1 : Int32) <<< (nI f &&& 31) ^^^ (-1))) = m → vp_nar .boolean y = y → y = fb m f → (∀ j, 1 ≤ j → j < 9 → j ≠ f → fb m j = fb (qF q) j) → mo_at G0 a A (va_up I 54 (g 1)) J (mw_M (va_up M 33 (upd (M 33) s 1)) r (qN q) (g 1)) (mw_W W J r (qN q) 0) G → ev_W l X m_Mo_simple 3 0 0 (si_Q G0 a A z r t q I J M W (rs_do n kf vf s g q)) 0 0 195 [(0, .ref a), (1, .int (nI s)), (2, .int (nI t))] [.int y, .int (nI f), .ref (A 56)] G := by
      intro y m G hmm hyv hy hoth hG
      refine em_zast (i := 56) (N := 9) hG d_Mo_simple_195 rfl rfl (by decide) (by omega) (by first | assumption | exact cI_v | decide) (fun G hG => ?_)
      refine ev_aload_n d_Mo_simple_196 rfl rfl ?_
      refine em_getA (i := 24) hG d_Mo_simple_197 fo_Mo_47 rfl ?_
      refine ev_iload_n d_Mo_simple_200 rfl rfl ?_
      refine em_iald (i := 24) (N := 1200) hG d_Mo_simple_201 rfl rfl (by decide) (by omega) (by (repeat (first | apply va_up_mt (h := by decide) | apply va_up_ms | apply pk_ut (h := by omega) | apply pk_uLt (h := by omega) | exact pk_us | exact pk_uLs | assumption)); all_goals rfl) ?_
      refine ev_iconst (v := 2) d_Mo_simple_202 (by decide) ?_
      refine ev_icmp_ne 242 d_Mo_simple_203 (by decide) (fun _ => ?_) (fun y => absurd y (by decide))
      refine ev_aload_n d_Mo_simple_242 rfl rfl ?_
      refine em_getA (i := 24) hG d_Mo_simple_243 fo_Mo_47 rfl ?_
      refine ev_iload_n d_Mo_simple_246 rfl rfl ?_
      refine em_iald (i := 24) (N := 1200) hG d_Mo_simple_247 rfl rfl (by decide) (by omega) (by (repeat (first | apply va_up_mt (h := by decide) | apply va_up_ms | apply pk_ut (h := by omega) | apply pk_uLt (h := by omega) | exact pk_us | exact pk_uLs | assumption)); all_goals rfl) ?_
      refine ev_iconst (v := 3) d_Mo_simple_248 (by decide) ?_
      refine ev_icmp_ne 271 d_Mo_simple_249 (by decide) (fun _ => ?_) (fun y => absurd y (by decide))
      rw [hmm] at ed
      refine ev_vret d_Mo_simple_271 rfl ⟨rfl, _, _, _, _, hG, (by repeat (first | exact mg_fr.rf | refine mg_fr.row ?_ | refine mg_fr.set ?_ | refine mg_fr.lv ?_ | refine mg_fr.i ?_ (by decide) | refine mg_fr.j ?_ (by decide) | refine mg_fr.m ?_ (by decide))), rfl, rfl, Or.inr ⟨hN, rs_fault m (rs_row (g 1) 0 (rs_begun s q)), true, ed, ?_, mr_fault hy hoth hrow⟩⟩
      exact (va_up_n (by decide)).trans h55
    refine ev_aload_n d_Mo_simple_179 rfl rfl ?_
    refine em_getA (i := 28) hG d_Mo_simple_180 fo_Mo_59 rfl ?_
    refine ev_iload_n d_Mo_simple_183 rfl rfl ?_
    refine em_lald (i := 28) (N := 1200) hG d_Mo_simple_184 rfl rfl (by decide) (by omega) (by (repeat (first | apply va_up_mt (h := by decide) | apply va_up_ms | apply pk_ut (h := by omega) | apply pk_uLt (h := by omega) | exact pk_us | exact pk_uLs | assumption)); all_goals rfl) ?_
    refine ev_lconst (v := 1) d_Mo_simple_185 (by decide) ?_
    refine ev_lcmp d_Mo_simple_186 ?_
    rcases g01 with g0 | g0
    · rw [g0]
      refine ev_if_ne 194 d_Mo_simple_187 (by decide) (fun _ => ?_) (fun y => absurd y (by decide))
      refine ev_iconst (v := 0) d_Mo_simple_194 (by decide) ?_
      refine fin 0 _ G rfl (by decide) ?_ (fun j j1 j2 j3 => ?_) hG
      · rw [if_neg (by rw [g0]; decide), fb_off (by omega) (by omega), if_pos rfl]
      · rw [if_neg (by rw [g0]; decide), fb_off j2 (by omega), if_neg j3]
    · rw [g0]
      refine ev_if_ne 194 d_Mo_simple_187 (by decide) (fun y => absurd (by decide) y) (fun _ => ?_)
      refine ev_iconst (v := 1) d_Mo_simple_190 (by decide) ?_
      refine ev_goto 195 d_Mo_simple_191 (by decide) ?_
      refine fin 1 _ G rfl (by decide) ?_ (fun j j1 j2 j3 => ?_) hG
      · rw [if_pos g0, fb_on (by omega) (by omega), if_pos rfl]
      · rw [if_pos g0, fb_on j2 (by omega), if_neg j3]
set_option maxHeartbeats 1000000 in
theorem mo_si4 (hG : mo_at G0 a A I J M W G) (hm : mr_ok z r t q I J M W) (hq : rq_ok q) (hr : r < 8) (ht : t ≤ 12) (hs : s < 1200) (hms : ms_ok M W c s g nl nf) (hsk : sk_ok g nl nf) (ha : ma_at N av at' ax I M W) (hok : ma_ok N n kf vf av at' ax) (h55 : I 55 = 0) (hk : g 0 = 4) : ev_W l X m_Mo_simple 3 0 0 (si_Q G0 a A z r t q I J M W (rs_do n kf vf s g q)) 0 0 0 [(0, .ref a), (1, .int (nI s)), (2, .int (nI t))] [] G := by
  obtain ⟨a1, a2, a3, a4, a5, a6, a7, a8, a9, a10, a11, a12, a13⟩ := id hm
  obtain ⟨q1, q2, q3, q4, q5, q6, q7⟩ := id hq
  obtain ⟨m24, m25, m26, m27, m28, m29, -, -⟩ := hms
  obtain ⟨k1, k2, k3, k4, k5, k6, k7, k8, k9⟩ := hsk
  have hT31 : qT q < 2 ^ 25 := by omega
  replace m24 : M 24 s = 2 := by rw [m24, hk]; decide
  obtain ⟨v, v0, v20, hv⟩ := k1.1 (Or.inr (Or.inr (Or.inr (Or.inl hk))))
  have hvc : (g 2).toNatClampNeg = v := by rw [hv, nI_clamp (by omega)]
  rw [hv] at m26
  replace m27 := m27 (Or.inr (Or.inr (Or.inr (Or.inl hk))))
  replace m29 := m29 (Or.inr hk)
  have hB := q3 v v20
  have ed : rs_do n kf vf s g q = rs_check (g 1) (g 3) (g 4) (mval n kf vf v (qB q v) (qT q) (qS q v)) (rs_begun s q) := by
    unfold rs_do
    rw [if_neg (by rw [hk]; decide), if_neg (by rw [hk]; decide), if_neg (by rw [hk]; decide), if_pos hk, hvc]
    rfl
  refine ev_aload_n d_Mo_simple_0 rfl rfl ?_
  refine em_getA (i := 24) hG d_Mo_simple_1 fo_Mo_47 rfl ?_
  refine ev_iload_n d_Mo_simple_4 rfl rfl ?_
  refine em_iald (i := 24) (N := 1200) hG d_Mo_simple_5 rfl rfl (by decide) (by omega) (by (repeat (first | apply va_up_mt (h := by decide) | apply va_up_ms | apply pk_ut (h := by omega) | apply pk_uLt (h := by omega) | exact pk_us | exact pk_uLs | assumption)); all_goals rfl) ?_
  refine ev_if_ne 23 d_Mo_simple_6 (by decide) (fun _ => ?_) (fun y => absurd y (by decide))
  refine ev_aload_n d_Mo_simple_23 rfl rfl ?_
  refine em_getA (i := 24) hG d_Mo_simple_24 fo_Mo_47 rfl ?_
  refine ev_iload_n d_Mo_simple_27 rfl rfl ?_
  refine em_iald (i := 24) (N := 1200) hG d_Mo_simple_28 rfl rfl (by decide) (by omega) (by (repeat (first | apply va_up_mt (h := by decide) | apply va_up_ms | apply pk_ut (h := by omega) | apply pk_uLt (h := by omega) | exact pk_us | exact pk_uLs | assumption)); all_goals rfl) ?_
  refine ev_iconst (v := 1) d_Mo_simple_29 (by decide) ?_
  refine ev_icmp_ne 92 d_Mo_simple_30 (by decide) (fun _ => ?_) (fun y => absurd y (by decide))
  refine ev_aload_n d_Mo_simple_92 rfl rfl ?_
  refine ev_iload_n d_Mo_simple_93 rfl rfl ?_
  refine ev_callV1 d_Mo_simple_94 ck_Mo_begin ml_Mo_259 im_Mo_begin se_Mo_begin rfl hG.1 (c_Mo_begin hG a1 hr a7 q1 hs m25) (by omega) (Nat.le_of_ble_eq_true rfl) (by omega) (by omega) ?_
  rintro _ G (⟨hN, rfl, hG⟩ | ⟨hN, rfl, hG⟩)
  · refine ev_if_eq 271 d_Mo_simple_97 (by decide) (fun _ => ?_) (fun y => absurd rfl y)
    exact ev_vret d_Mo_simple_271 rfl ⟨rfl, _, _, _, _, hG, (by repeat (first | exact mg_fr.rf | refine mg_fr.row ?_ | refine mg_fr.set ?_ | refine mg_fr.lv ?_ | refine mg_fr.i ?_ (by decide) | refine mg_fr.j ?_ (by decide) | refine mg_fr.m ?_ (by decide))), rfl, rfl, Or.inl ⟨hN, va_up_s, mr_oc hm⟩⟩
  · refine ev_if_eq 271 d_Mo_simple_97 (by decide) (fun y => absurd y (by decide)) (fun _ => ?_)
    have hb := mr_begun (s := s) (li := g 1) hm
    refine ev_aload_n d_Mo_simple_100 rfl rfl ?_
    refine em_getA (i := 24) hG d_Mo_simple_101 fo_Mo_47 rfl ?_
    refine ev_iload_n d_Mo_simple_104 rfl rfl ?_
    refine em_iald (i := 24) (N := 1200) hG d_Mo_simple_105 rfl rfl (by decide) (by omega) (by (repeat (first | apply va_up_mt (h := by decide) | apply va_up_ms | apply pk_ut (h := by omega) | apply pk_uLt (h := by omega) | exact pk_us | exact pk_uLs | assumption)); all_goals rfl) ?_
    refine ev_iconst (v := 3) d_Mo_simple_106 (by decide) ?_
    refine ev_icmp_ne 152 d_Mo_simple_107 (by decide) (fun _ => ?_) (fun y => absurd y (by decide))
    have b44 : va_up I 54 (g 1) 44 = nI (r + 1) := (by (repeat (first | apply va_up_t (h := by decide) | apply mo_w_t (h5 := by decide) (h7 := by decide) (h8 := by decide) | exact va_up_s | exact mo_w_5 | exact mo_w_7 | exact mo_w_8 | assumption)); all_goals rfl)
    have b45 : va_up M 33 (upd (M 33) s 1) 45 r = nI (qN q) := a7
    have b25 : va_up M 33 (upd (M 33) s 1) 25 s = g 1 := m25
    refine ev_aload_n d_Mo_simple_152 rfl rfl ?_
    refine ev_iload_n d_Mo_simple_153 rfl rfl ?_
    refine ev_lconst (v := 0) d_Mo_simple_154 (by decide) ?_
    refine ev_callV2 d_Mo_simple_155 ck_Mo_row ml_Mo_262 im_Mo_row se_Mo_row rfl hG.1 (c_Mo_row hG b44 hr b45 hN hs b25) (by omega) (Nat.le_of_ble_eq_true rfl) (by omega) (by omega) ?_
    rintro _ G ⟨rfl, hG⟩
    have hrow := mr_row (q := rs_begun s q) (li := g 1) (x := 0) (X := 0) (by decide) (by show qT q < 2 ^ 31; omega) hb
    have w24 : mw_M (va_up M 33 (upd (M 33) s 1)) r (qN q) (g 1) 24 s = 2 := m24
    have w26 : mw_M (va_up M 33 (upd (M 33) s 1)) r (qN q) (g 1) 26 s = nI v := m26
    have hma : ma_at N av at' ax (va_up I 54 (g 1)) (mw_M (va_up M 33 (upd (M 33) s 1)) r (qN q) (g 1)) (mw_W W J r (qN q) 0) := ha
    refine ev_aload_n d_Mo_simple_158 rfl rfl ?_
    refine em_getA (i := 24) hG d_Mo_simple_159 fo_Mo_47 rfl ?_
    refine ev_iload_n d_Mo_simple_162 rfl rfl ?_
    refine em_iald (i := 24) (N := 1200) hG d_Mo_simple_163 rfl rfl (by decide) (by omega) (by (repeat (first | apply va_up_mt (h := by decide) | apply va_up_ms | apply pk_ut (h := by omega) | apply pk_uLt (h := by omega) | exact pk_us | exact pk_uLs | assumption)); all_goals rfl) ?_
    refine ev_iconst (v := 4) d_Mo_simple_164 (by decide) ?_
    refine ev_icmp_ne 196 d_Mo_simple_165 (by decide) (fun _ => ?_) (fun y => absurd y (by decide))
    refine ev_aload_n d_Mo_simple_196 rfl rfl ?_
    refine em_getA (i := 24) hG d_Mo_simple_197 fo_Mo_47 rfl ?_
    refine ev_iload_n d_Mo_simple_200 rfl rfl ?_
    refine em_iald (i := 24) (N := 1200) hG d_Mo_simple_201 rfl rfl (by decide) (by omega) (by (repeat (first | apply va_up_mt (h := by decide) | apply va_up_ms | apply pk_ut (h := by omega) | apply pk_uLt (h := by omega) | exact pk_us | exact pk_uLs | assumption)); all_goals rfl) ?_
    refine ev_iconst (v := 2) d_Mo_simple_202 (by decide) ?_
    refine ev_icmp_ne 242 d_Mo_simple_203 (by decide) (fun y => absurd rfl y) (fun _ => ?_)
    refine ev_aload_n d_Mo_simple_206 rfl rfl ?_
    refine ev_aload_n d_Mo_simple_207 rfl rfl ?_
    refine ev_iload_n d_Mo_simple_208 rfl rfl ?_
    refine ev_callV1 d_Mo_simple_209 ck_Mo_holds ml_Mo_283 im_Mo_holds se_Mo_holds rfl hG.1 (c_Mo_holds (v := v) (b := qB q v) (op := g 3) (nu := g 4) (sv := qS q v) (i := s) hG hma hok a3 (by omega) v20 (a5 v v20) (by omega) (q4 v v20) hs m26 (a6 v v20) m29 m27) (by omega) (Nat.le_of_ble_eq_true rfl) (by omega) (by omega) ?_
    rintro _ _ ⟨rfl, rfl⟩
    have fin : ∀ (p : Prop) (ve : Int32) (G : pm_G), (p ↔ ¬ (mval n kf vf v (qB q v) (qT q) (qS q v) ≠ -1000000 ∧ hs_B (g 3) (g 4) (mval n kf vf v (qB q v) (qT q) (qS q v)) = true)) → ve = (if mval n kf vf v (qB q v) (qT q) (qS q v) = -1000000 then 2 else 1) → mo_at G0 a A (va_up I 54 (g 1)) J (mw_M (va_up M 33 (upd (M 33) s 1)) r (qN q) (g 1)) (mw_W W J r (qN q) 0) G → ev_W l X m_Mo_simple 3 0 0 (si_Q G0 a A z r t q I J M W (rs_do n kf vf s g q)) 0 0 239 [(0, .ref a), (1, .int (nI s)), (2, .int (nI t))] [.int (nI t), .int ve, .int (cI p), .ref a] G := by
      intro p ve G hp hve hG
      have hve0 : ve ≠ 0 := by rw [hve]; split <;> decide
      refine ev_callV3 d_Mo_simple_239 ck_Mo_leave ml_Mo_286 im_Mo_leave se_Mo_leave rfl hG.1 (c_Mo_leaveR (p := p) (ve := ve) (li := g 1) (be := qN q) hG hrow q6 q7.1 hr ht rfl (by show qT q < 2 ^ 31; omega) va_up_s hve0) (by omega) (Nat.le_of_ble_eq_true rfl) (by omega) (by omega) ?_
      rintro _ G ⟨rfl, I', M', W', hG, hf, h37, h59, h⟩
      have hf2 : mg_fr r t I I' J J M M' W W' := (show mg_fr r t I _ J J M _ W _ from (by repeat (first | exact mg_fr.rf | refine mg_fr.row ?_ | refine mg_fr.set ?_ | refine mg_fr.lv ?_ | refine mg_fr.i ?_ (by decide) | refine mg_fr.j ?_ (by decide) | refine mg_fr.m ?_ (by decide)))).tr hf
      have y24 : M' 24 s = 2 := by rw [hf.2.2.1 24 (by decide) (by decide) (by decide) (by decide) (by decide) (by decide) (by decide) (by decide)]; exact m24
      refine ev_aload_n d_Mo_simple_242 rfl rfl ?_
      refine em_getA (i := 24) hG d_Mo_simple_243 fo_Mo_47 rfl ?_
      refine ev_iload_n d_Mo_simple_246 rfl rfl ?_
      refine em_iald (i := 24) (N := 1200) hG d_Mo_simple_247 rfl rfl (by decide) (by omega) (by (repeat (first | apply va_up_mt (h := by decide) | apply va_up_ms | apply pk_ut (h := by omega) | apply pk_uLt (h := by omega) | exact pk_us | exact pk_uLs | assumption)); all_goals rfl) ?_
      refine ev_iconst (v := 3) d_Mo_simple_248 (by decide) ?_
      refine ev_icmp_ne 271 d_Mo_simple_249 (by decide) (fun _ => ?_) (fun y => absurd y (by decide))
      rcases h with ⟨hnp, h55', hmr⟩ | ⟨hpp, h55', hmr⟩
      · have hy := Classical.not_not.mp (fun y => hnp (hp.mpr y))
        refine ev_vret d_Mo_simple_271 rfl ⟨rfl, _, _, _, _, hG, hf2, h37, h59, Or.inr ⟨hN, rs_row (g 1) 0 (rs_begun s q), true, ?_, h55'.trans ((va_up_n (by decide)).trans h55), hmr⟩⟩
        rw [ed, rs_check, if_neg (fun y => y.elim hy.1 (fun y => by rw [hy.2] at y; cases y))]
        rfl
      · have hy := hp.mp hpp
        refine ev_vret d_Mo_simple_271 rfl ⟨rfl, _, _, _, _, hG, hf2, h37, h59, Or.inr ⟨hN, _, false, ?_, h55', hmr⟩⟩
        rw [ed, rs_check, if_pos (by
          by_cases w : mval n kf vf v (qB q v) (qT q) (qS q v) = -1000000
          · exact Or.inl w
          · exact Or.inr (Bool.eq_false_iff.mpr (fun y => hy ⟨w, y⟩))), hve]
        rfl
    have kn : ∀ (p : Prop) (G : pm_G), (p ↔ ¬ (mval n kf vf v (qB q v) (qT q) (qS q v) ≠ -1000000 ∧ hs_B (g 3) (g 4) (mval n kf vf v (qB q v) (qT q) (qS q v)) = true)) → mo_at G0 a A (va_up I 54 (g 1)) J (mw_M (va_up M 33 (upd (M 33) s 1)) r (qN q) (g 1)) (mw_W W J r (qN q) 0) G → ev_W l X m_Mo_simple 3 0 0 (si_Q G0 a A z r t q I J M W (rs_do n kf vf s g q)) 0 0 220 [(0, .ref a), (1, .int (nI s)), (2, .int (nI t))] [.int (cI p), .ref a] G := by
      intro p G hp hG
      refine ev_aload_n d_Mo_simple_220 rfl rfl ?_
      refine ev_aload_n d_Mo_simple_221 rfl rfl ?_
      refine em_getA (i := 26) hG d_Mo_simple_222 fo_Mo_53 rfl ?_
      refine ev_iload_n d_Mo_simple_225 rfl rfl ?_
      refine em_iald (i := 26) (N := 1200) hG d_Mo_simple_226 rfl rfl (by decide) (by omega) (by (repeat (first | apply va_up_mt (h := by decide) | apply va_up_ms | apply pk_ut (h := by omega) | apply pk_uLt (h := by omega) | exact pk_us | exact pk_uLs | assumption)); all_goals rfl) ?_
      refine ev_callV1 d_Mo_simple_227 ck_Mo_known ml_Mo_250 im_Mo_known se_Mo_known rfl hG.1 (c_Mo_known (v := v) (b := qB q v) (sv := qS q v) hG hma hok a3 (by omega) v20 (a5 v v20) (by omega) (q4 v v20)) (by omega) (Nat.le_of_ble_eq_true rfl) (by omega) (by omega) ?_
      rintro _ _ ⟨rfl, rfl⟩
      refine ev_if_eq 237 d_Mo_simple_230 (by decide) (fun hkn => ?_) (fun hkn => ?_)
      · have hkn := Classical.not_not.mp (cI_0 hkn)
        refine ev_iconst (v := 2) d_Mo_simple_237 (by decide) ?_
        refine ev_iload_n d_Mo_simple_238 rfl rfl ?_
        exact fin p 2 G hp (by rw [if_pos hkn]) hG
      · have hkn := cI_1 hkn
        refine ev_iconst (v := 1) d_Mo_simple_233 (by decide) ?_
        refine ev_goto 238 d_Mo_simple_234 (by decide) ?_
        refine ev_iload_n d_Mo_simple_238 rfl rfl ?_
        exact fin p 1 G hp (by rw [if_neg hkn]) hG
    refine ev_if_ne 219 d_Mo_simple_212 (by decide) (fun hh => ?_) (fun hh => ?_)
    · have hh := cI_1 hh
      refine ev_iconst (v := 0) d_Mo_simple_219 (by decide) ?_
      have := kn False G ⟨fun y => y.elim, fun y => y hh⟩ hG
      rw [cI_f id] at this
      exact this
    · have hh := cI_0 hh
      refine ev_iconst (v := 1) d_Mo_simple_215 (by decide) ?_
      refine ev_goto 220 d_Mo_simple_216 (by decide) ?_
      have := kn True G ⟨fun _ => hh, fun _ => trivial⟩ hG
      rw [cI_t trivial] at this
      exact this
set_option maxHeartbeats 1000000 in
theorem mo_si3 (hG : mo_at G0 a A I J M W G) (hm : mr_ok z r t q I J M W) (hq : rq_ok q) (hr : r < 8) (ht : t ≤ 12) (hs : s < 1200) (hms : ms_ok M W c s g nl nf) (hsk : sk_ok g nl nf) (ha : ma_at N av at' ax I M W) (hok : ma_ok N n kf vf av at' ax) (h55 : I 55 = 0) (hk : g 0 = 3) : ev_W l X m_Mo_simple 3 0 0 (si_Q G0 a A z r t q I J M W (rs_do n kf vf s g q)) 0 0 0 [(0, .ref a), (1, .int (nI s)), (2, .int (nI t))] [] G := by
  obtain ⟨a1, a2, a3, a4, a5, a6, a7, a8, a9, a10, a11, a12, a13⟩ := id hm
  obtain ⟨q1, q2, q3, q4, q5, q6, q7⟩ := id hq
  obtain ⟨m24, m25, m26, m27, m28, m29, -, -⟩ := hms
  obtain ⟨k1, k2, k3, k4, k5, k6, k7, k8, k9⟩ := hsk
  have hT31 : qT q < 2 ^ 25 := by omega
  replace m24 : M 24 s = 3 := by rw [m24, hk]; decide
  obtain ⟨v, v0, v20, hv⟩ := k1.1 (Or.inr (Or.inr (Or.inl hk)))
  have hvc : (g 2).toNatClampNeg = v := by rw [hv, nI_clamp (by omega)]
  rw [hv] at m26
  replace m27 := m27 (Or.inr (Or.inr (Or.inl hk)))
  replace m28 := m28 (Or.inr (Or.inl hk))
  replace m29 := m29 (Or.inl hk)
  obtain ⟨se, se1, se2⟩ := k1.2 hk
  rw [se2] at m28
  have hB := q3 v v20
  have ed : rs_do n kf vf s g q = rs_wait (g 1) (g 3) (g 4) (mval n kf vf v (qB q v) (qT q) (qS q v)) se (an_wt n kf vf v (g 3) (g 4) (qT q) (qT q + se)) (rs_begun s q) := by
    unfold rs_do
    rw [if_neg (by rw [hk]; decide), if_neg (by rw [hk]; decide), if_pos hk, hvc, show (g 5).toNatClampNeg = se by rw [se2, nI_clamp (by omega)]]
    rfl
  -- where the waiting ends
  obtain ⟨E, E1, E2, E3, E4, E5⟩ : ∃ E, qT q ≤ E ∧ E ≤ qT q + se ∧ (∀ t, qT q ≤ t → t < E → ¬ mh n kf vf v (qB q v) (g 3) (g 4) (qS q v) t) ∧ (mh n kf vf v (qB q v) (g 3) (g 4) (qS q v) E ∨ E = qT q + se) ∧ rs_do n kf vf s g q = zIf (mh n kf vf v (qB q v) (g 3) (g 4) (qS q v) E) (rs_tick (rs_row (g 1) 0 (rs_at_time E (rs_begun s q))), true) (rs_leave 1 (g 1) (qN q) (rs_row (g 1) 0 (rs_at_time E (rs_begun s q))), false) := by
    by_cases h0 : mh n kf vf v (qB q v) (g 3) (g 4) (qS q v) (qT q)
    · refine ⟨qT q, Nat.le_refl _, by omega, fun t t1 t2 => by omega, Or.inl h0, ?_⟩
      rw [zIf_t h0, ed]
      unfold rs_wait
      rw [if_neg (fun y => y.elim h0.1 (fun y => by rw [h0.2] at y; cases y))]
      rfl
    · have hc : mval n kf vf v (qB q v) (qT q) (qS q v) = -1000000 ∨ hs_B (g 3) (g 4) (mval n kf vf v (qB q v) (qT q) (qS q v)) = false := by
        by_cases w : mval n kf vf v (qB q v) (qT q) (qS q v) = -1000000
        · exact Or.inl w
        · exact Or.inr (Bool.eq_false_iff.mpr (fun y => h0 ⟨w, y⟩))
      cases hw : an_wt n kf vf v (g 3) (g 4) (qT q) (qT q + se) with
      | none =>
        have hn := wt_none hok (by omega) h0 hw
        refine ⟨qT q + se, by omega, Nat.le_refl _, fun t t1 t2 => hn t t1 (by omega), Or.inr rfl, ?_⟩
        rw [zIf_f (hn _ (by omega) (Nat.le_refl _)), ed, hw]
        unfold rs_wait
        rw [if_pos hc]
        rfl
      | some w =>
        obtain ⟨w1, w2, w3, w4⟩ := wt_some hok (by omega) h0 hw
        refine ⟨w, by omega, w2, w4, Or.inl w3, ?_⟩
        rw [zIf_t w3, ed, hw]
        unfold rs_wait
        rw [if_pos hc]
  refine ev_aload_n d_Mo_simple_0 rfl rfl ?_
  refine em_getA (i := 24) hG d_Mo_simple_1 fo_Mo_47 rfl ?_
  refine ev_iload_n d_Mo_simple_4 rfl rfl ?_
  refine em_iald (i := 24) (N := 1200) hG d_Mo_simple_5 rfl rfl (by decide) (by omega) (by (repeat (first | apply va_up_mt (h := by decide) | apply va_up_ms | apply pk_ut (h := by omega) | apply pk_uLt (h := by omega) | exact pk_us | exact pk_uLs | assumption)); all_goals rfl) ?_
  refine ev_if_ne 23 d_Mo_simple_6 (by decide) (fun _ => ?_) (fun y => absurd y (by decide))
  refine ev_aload_n d_Mo_simple_23 rfl rfl ?_
  refine em_getA (i := 24) hG d_Mo_simple_24 fo_Mo_47 rfl ?_
  refine ev_iload_n d_Mo_simple_27 rfl rfl ?_
  refine em_iald (i := 24) (N := 1200) hG d_Mo_simple_28 rfl rfl (by decide) (by omega) (by (repeat (first | apply va_up_mt (h := by decide) | apply va_up_ms | apply pk_ut (h := by omega) | apply pk_uLt (h := by omega) | exact pk_us | exact pk_uLs | assumption)); all_goals rfl) ?_
  refine ev_iconst (v := 1) d_Mo_simple_29 (by decide) ?_
  refine ev_icmp_ne 92 d_Mo_simple_30 (by decide) (fun _ => ?_) (fun y => absurd y (by decide))
  refine ev_aload_n d_Mo_simple_92 rfl rfl ?_
  refine ev_iload_n d_Mo_simple_93 rfl rfl ?_
  refine ev_callV1 d_Mo_simple_94 ck_Mo_begin ml_Mo_259 im_Mo_begin se_Mo_begin rfl hG.1 (c_Mo_begin hG a1 hr a7 q1 hs m25) (by omega) (Nat.le_of_ble_eq_true rfl) (by omega) (by omega) ?_
  rintro _ G (⟨hN, rfl, hG⟩ | ⟨hN, rfl, hG⟩)
  · refine ev_if_eq 271 d_Mo_simple_97 (by decide) (fun _ => ?_) (fun y => absurd rfl y)
    exact ev_vret d_Mo_simple_271 rfl ⟨rfl, _, _, _, _, hG, (by repeat (first | exact mg_fr.rf | refine mg_fr.row ?_ | refine mg_fr.set ?_ | refine mg_fr.lv ?_ | refine mg_fr.i ?_ (by decide) | refine mg_fr.j ?_ (by decide) | refine mg_fr.m ?_ (by decide))), rfl, rfl, Or.inl ⟨hN, va_up_s, mr_oc hm⟩⟩
  · refine ev_if_eq 271 d_Mo_simple_97 (by decide) (fun y => absurd y (by decide)) (fun _ => ?_)
    have hb := mr_begun (s := s) (li := g 1) hm
    refine ev_aload_n d_Mo_simple_100 rfl rfl ?_
    refine em_getA (i := 24) hG d_Mo_simple_101 fo_Mo_47 rfl ?_
    refine ev_iload_n d_Mo_simple_104 rfl rfl ?_
    refine em_iald (i := 24) (N := 1200) hG d_Mo_simple_105 rfl rfl (by decide) (by omega) (by (repeat (first | apply va_up_mt (h := by decide) | apply va_up_ms | apply pk_ut (h := by omega) | apply pk_uLt (h := by omega) | exact pk_us | exact pk_uLs | assumption)); all_goals rfl) ?_
    refine ev_iconst (v := 3) d_Mo_simple_106 (by decide) ?_
    refine ev_icmp_ne 152 d_Mo_simple_107 (by decide) (fun y => absurd rfl y) (fun _ => ?_)
    have b28 : W 28 s = lN se := by rw [m28]; exact nI_l (by omega)
    clear m28
    refine ev_aload_n d_Mo_simple_110 rfl rfl ?_
    refine em_getJ (i := 52) hG d_Mo_simple_111 fo_Mo_243 rfl (by (repeat (first | apply va_up_t (h := by decide) | apply mo_w_t (h5 := by decide) (h7 := by decide) (h8 := by decide) | exact va_up_s | exact mo_w_5 | exact mo_w_7 | exact mo_w_8 | assumption)); all_goals rfl) ?_
    refine ev_aload_n d_Mo_simple_114 rfl rfl ?_
    refine em_getA (i := 28) hG d_Mo_simple_115 fo_Mo_59 rfl ?_
    refine ev_iload_n d_Mo_simple_118 rfl rfl ?_
    refine em_lald (i := 28) (N := 1200) hG d_Mo_simple_119 rfl rfl (by decide) (by omega) (by (repeat (first | apply va_up_mt (h := by decide) | apply va_up_ms | apply pk_ut (h := by omega) | apply pk_uLt (h := by omega) | exact pk_us | exact pk_uLs | assumption)); all_goals rfl) ?_
    refine ev_ladd d_Mo_simple_120 ?_
    rw [lN_add]
    refine ev_lstore_n d_Mo_simple_121 rfl (by decide) ?_
    have after : ∀ (G : pm_G), mo_at G0 a A (va_up I 54 (g 1)) (va_up J 52 (lN E)) (va_up M 33 (upd (M 33) s 1)) W G → ev_W l X m_Mo_simple 3 0 0 (si_Q G0 a A z r t q I J M W (rs_do n kf vf s g q)) 0 0 152 [(0, .ref a), (1, .int (nI s)), (2, .int (nI t)), (3, .long (lN (qT q + se)))] [] G := by
      intro G hG
      have b44 : va_up I 54 (g 1) 44 = nI (r + 1) := (by (repeat (first | apply va_up_t (h := by decide) | apply mo_w_t (h5 := by decide) (h7 := by decide) (h8 := by decide) | exact va_up_s | exact mo_w_5 | exact mo_w_7 | exact mo_w_8 | assumption)); all_goals rfl)
      have b45 : va_up M 33 (upd (M 33) s 1) 45 r = nI (qN q) := a7
      have b25 : va_up M 33 (upd (M 33) s 1) 25 s = g 1 := m25
      refine ev_aload_n d_Mo_simple_152 rfl rfl ?_
      refine ev_iload_n d_Mo_simple_153 rfl rfl ?_
      refine ev_lconst (v := 0) d_Mo_simple_154 (by decide) ?_
      refine ev_callV2 d_Mo_simple_155 ck_Mo_row ml_Mo_262 im_Mo_row se_Mo_row rfl hG.1 (c_Mo_row hG b44 hr b45 hN hs b25) (by omega) (Nat.le_of_ble_eq_true rfl) (by omega) (by omega) ?_
      rintro _ G ⟨rfl, hG⟩
      have hrow := mr_row (q := rs_at_time E (rs_begun s q)) (li := g 1) (x := 0) (X := 0) (by decide) (by show E < 2 ^ 31; omega) (mr_time (T := E) hb)
      have w24 : mw_M (va_up M 33 (upd (M 33) s 1)) r (qN q) (g 1) 24 s = 3 := m24
      have hma : ma_at N av at' ax (va_up I 54 (g 1)) (mw_M (va_up M 33 (upd (M 33) s 1)) r (qN q) (g 1)) (mw_W W (va_up J 52 (lN E)) r (qN q) 0) := ha
      refine ev_aload_n d_Mo_simple_158 rfl rfl ?_
      refine em_getA (i := 24) hG d_Mo_simple_159 fo_Mo_47 rfl ?_
      refine ev_iload_n d_Mo_simple_162 rfl rfl ?_
      refine em_iald (i := 24) (N := 1200) hG d_Mo_simple_163 rfl rfl (by decide) (by omega) (by (repeat (first | apply va_up_mt (h := by decide) | apply va_up_ms | apply pk_ut (h := by omega) | apply pk_uLt (h := by omega) | exact pk_us | exact pk_uLs | assumption)); all_goals rfl) ?_
      refine ev_iconst (v := 4) d_Mo_simple_164 (by decide) ?_
      refine ev_icmp_ne 196 d_Mo_simple_165 (by decide) (fun _ => ?_) (fun y => absurd y (by decide))
      refine ev_aload_n d_Mo_simple_196 rfl rfl ?_
      refine em_getA (i := 24) hG d_Mo_simple_197 fo_Mo_47 rfl ?_
      refine ev_iload_n d_Mo_simple_200 rfl rfl ?_
      refine em_iald (i := 24) (N := 1200) hG d_Mo_simple_201 rfl rfl (by decide) (by omega) (by (repeat (first | apply va_up_mt (h := by decide) | apply va_up_ms | apply pk_ut (h := by omega) | apply pk_uLt (h := by omega) | exact pk_us | exact pk_uLs | assumption)); all_goals rfl) ?_
      refine ev_iconst (v := 2) d_Mo_simple_202 (by decide) ?_
      refine ev_icmp_ne 242 d_Mo_simple_203 (by decide) (fun _ => ?_) (fun y => absurd y (by decide))
      refine ev_aload_n d_Mo_simple_242 rfl rfl ?_
      refine em_getA (i := 24) hG d_Mo_simple_243 fo_Mo_47 rfl ?_
      refine ev_iload_n d_Mo_simple_246 rfl rfl ?_
      refine em_iald (i := 24) (N := 1200) hG d_Mo_simple_247 rfl rfl (by decide) (by omega) (by (repeat (first | apply va_up_mt (h := by decide) | apply va_up_ms | apply pk_ut (h := by omega) | apply pk_uLt (h := by omega) | exact pk_us | exact pk_uLs | assumption)); all_goals rfl) ?_
      refine ev_iconst (v := 3) d_Mo_simple_248 (by decide) ?_
      refine ev_icmp_ne 271 d_Mo_simple_249 (by decide) (fun y => absurd rfl y) (fun _ => ?_)
      refine ev_aload_n d_Mo_simple_252 rfl rfl ?_
      refine ev_aload_n d_Mo_simple_253 rfl rfl ?_
      refine ev_iload_n d_Mo_simple_254 rfl rfl ?_
      refine ev_callV1 d_Mo_simple_255 ck_Mo_holds ml_Mo_283 im_Mo_holds se_Mo_holds rfl hG.1 (c_Mo_holds (T := E) (v := v) (b := qB q v) (op := g 3) (nu := g 4) (sv := qS q v) (i := s) hG hma hok va_up_s (by omega) v20 (a5 v v20) (by omega) (q4 v v20) hs m26 (a6 v v20) m29 m27) (by omega) (Nat.le_of_ble_eq_true rfl) (by omega) (by omega) ?_
      rintro _ _ ⟨rfl, rfl⟩
      have fin : ∀ (p : Prop) (G : pm_G), (p ↔ ¬ mh n kf vf v (qB q v) (g 3) (g 4) (qS q v) E) → mo_at G0 a A (va_up I 54 (g 1)) (va_up J 52 (lN E)) (mw_M (va_up M 33 (upd (M 33) s 1)) r (qN q) (g 1)) (mw_W W (va_up J 52 (lN E)) r (qN q) 0) G → ev_W l X m_Mo_simple 3 0 0 (si_Q G0 a A z r t q I J M W (rs_do n kf vf s g q)) 0 0 266 [(0, .ref a), (1, .int (nI s)), (2, .int (nI t)), (3, .long (lN (qT q + se)))] [.int (cI p), .ref a] G := by
        intro p G hp hG
        refine ev_iconst (v := 1) d_Mo_simple_266 (by decide) ?_
        refine ev_iload_n d_Mo_simple_267 rfl rfl ?_
        refine ev_callV3 d_Mo_simple_268 ck_Mo_leave ml_Mo_286 im_Mo_leave se_Mo_leave rfl hG.1 (c_Mo_leaveR (p := p) (ve := 1) (li := g 1) (be := qN q) hG hrow q6 q7.1 hr ht rfl (by show E < 2 ^ 31; omega) va_up_s (by decide)) (by omega) (Nat.le_of_ble_eq_true rfl) (by omega) (by omega) ?_
        rintro _ G ⟨rfl, I', M', W', hG, hf, h37, h59, h⟩
        have hf2 : mg_fr r t I I' J (va_up J 52 (lN E)) M M' W W' := (show mg_fr r t I _ J _ M _ W _ from (by repeat (first | exact mg_fr.rf | refine mg_fr.row ?_ | refine mg_fr.set ?_ | refine mg_fr.lv ?_ | refine mg_fr.i ?_ (by decide) | refine mg_fr.j ?_ (by decide) | refine mg_fr.m ?_ (by decide)))).tr hf
        rcases h with ⟨hnp, h55', hmr⟩ | ⟨hpp, h55', hmr⟩
        · have hy := Classical.not_not.mp (fun y => hnp (hp.mpr y))
          refine ev_vret d_Mo_simple_271 rfl ⟨rfl, _, _, _, _, hG, hf2, h37, h59, Or.inr ⟨hN, rs_row (g 1) 0 (rs_at_time E (rs_begun s q)), true, ?_, h55'.trans ((va_up_n (by decide)).trans h55), hmr⟩⟩
          rw [E5, zIf_t hy]
          rfl
        · have hy := hp.mp hpp
          refine ev_vret d_Mo_simple_271 rfl ⟨rfl, _, _, _, _, hG, hf2, h37, h59, Or.inr ⟨hN, _, false, ?_, h55', hmr⟩⟩
          rw [E5, zIf_f hy]
          rfl
      refine ev_if_ne 265 d_Mo_simple_258 (by decide) (fun hh => ?_) (fun hh => ?_)
      · have hh := cI_1 hh
        refine ev_iconst (v := 0) d_Mo_simple_265 (by decide) ?_
        have := fin False G ⟨fun y => y.elim, fun y => y hh⟩ hG
        rw [cI_f id] at this
        exact this
      · have hh := cI_0 hh
        refine ev_iconst (v := 1) d_Mo_simple_261 (by decide) ?_
        refine ev_goto 266 d_Mo_simple_262 (by decide) ?_
        have := fin True G ⟨fun _ => hh, fun _ => trivial⟩ hG
        rw [cI_t trivial] at this
        exact this
    have loop : ∀ (m tm : Nat) (G : pm_G), tm + m = E → qT q ≤ tm → mo_at G0 a A (va_up I 54 (g 1)) (va_up J 52 (lN tm)) (va_up M 33 (upd (M 33) s 1)) W G → ev_W l X m_Mo_simple 3 0 0 (si_Q G0 a A z r t q I J M W (rs_do n kf vf s g q)) 0 0 122 [(0, .ref a), (1, .int (nI s)), (2, .int (nI t)), (3, .long (lN (qT q + se)))] [] G := by
      have hma : ma_at N av at' ax (va_up I 54 (g 1)) (va_up M 33 (upd (M 33) s 1)) W := ha
      intro m
      induction m with
      | zero =>
        intro tm G hm1 hm2 hG
        have etm : tm = E := by omega
        subst etm
        refine ev_aload_n d_Mo_simple_122 rfl rfl ?_
        refine em_getJ (i := 52) hG d_Mo_simple_123 fo_Mo_243 rfl (by (repeat (first | apply va_up_t (h := by decide) | apply mo_w_t (h5 := by decide) (h7 := by decide) (h8 := by decide) | exact va_up_s | exact mo_w_5 | exact mo_w_7 | exact mo_w_8 | assumption)); all_goals rfl) ?_
        refine ev_lload_n d_Mo_simple_126 rfl rfl ?_
        refine ev_lcmp d_Mo_simple_127 ?_
        by_cases hl : tm < qT q + se
        · refine ev_if_ge 152 d_Mo_simple_128 (by decide) (fun y => absurd ((lg_cmp_lt _ _).mpr ((lN_lt (by omega) (by omega)).mpr hl)) (Int32.not_lt.mpr y)) (fun _ => ?_)
          have hh := E4.resolve_right (by omega)
          refine ev_aload_n d_Mo_simple_131 rfl rfl ?_
          refine ev_iload_n d_Mo_simple_132 rfl rfl ?_
          refine ev_callV1 d_Mo_simple_133 ck_Mo_holds ml_Mo_283 im_Mo_holds se_Mo_holds rfl hG.1 (c_Mo_holds (T := tm) (v := v) (b := qB q v) (op := g 3) (nu := g 4) (sv := qS q v) (i := s) hG hma hok va_up_s (by omega) v20 (a5 v v20) (by omega) (q4 v v20) hs m26 (a6 v v20) m29 m27) (by omega) (Nat.le_of_ble_eq_true rfl) (by omega) (by omega) ?_
          rintro _ _ ⟨rfl, rfl⟩
          refine ev_if_ne 152 d_Mo_simple_136 (by decide) (fun _ => ?_) (fun y => absurd hh (cI_0 y))
          exact after G hG
        · refine ev_if_ge 152 d_Mo_simple_128 (by decide) (fun _ => ?_) (fun y => absurd ((lN_lt (by omega) (by omega)).mp ((lg_cmp_lt _ _).mp (Int32.not_le.mp y))) hl)
          exact after G hG
      | succ m ih =>
        intro tm G hm1 hm2 hG
        have hn := E3 tm hm2 (by omega)
        refine ev_aload_n d_Mo_simple_122 rfl rfl ?_
        refine em_getJ (i := 52) hG d_Mo_simple_123 fo_Mo_243 rfl (by (repeat (first | apply va_up_t (h := by decide) | apply mo_w_t (h5 := by decide) (h7 := by decide) (h8 := by decide) | exact va_up_s | exact mo_w_5 | exact mo_w_7 | exact mo_w_8 | assumption)); all_goals rfl) ?_
        refine ev_lload_n d_Mo_simple_126 rfl rfl ?_
        refine ev_lcmp d_Mo_simple_127 ?_
        refine ev_if_ge 152 d_Mo_simple_128 (by decide) (fun y => absurd ((lg_cmp_lt _ _).mpr ((lN_lt (by omega) (by omega)).mpr (by omega))) (Int32.not_lt.mpr y)) (fun _ => ?_)
        refine ev_aload_n d_Mo_simple_131 rfl rfl ?_
        refine ev_iload_n d_Mo_simple_132 rfl rfl ?_
        refine ev_callV1 d_Mo_simple_133 ck_Mo_holds ml_Mo_283 im_Mo_holds se_Mo_holds rfl hG.1 (c_Mo_holds (T := tm) (v := v) (b := qB q v) (op := g 3) (nu := g 4) (sv := qS q v) (i := s) hG hma hok va_up_s (by omega) v20 (a5 v v20) (by omega) (q4 v v20) hs m26 (a6 v v20) m29 m27) (by omega) (Nat.le_of_ble_eq_true rfl) (by omega) (by omega) ?_
        rintro _ _ ⟨rfl, rfl⟩
        refine ev_if_ne 152 d_Mo_simple_136 (by decide) (fun y => absurd (cI_1 y) hn) (fun _ => ?_)
        refine ev_aload_n d_Mo_simple_139 rfl rfl ?_
        refine ev_dup d_Mo_simple_140 rfl ?_
        refine em_getJ (i := 52) hG d_Mo_simple_141 fo_Mo_243 rfl (by (repeat (first | apply va_up_t (h := by decide) | apply mo_w_t (h5 := by decide) (h7 := by decide) (h8 := by decide) | exact va_up_s | exact mo_w_5 | exact mo_w_7 | exact mo_w_8 | assumption)); all_goals rfl) ?_
        refine ev_lconst (v := 1) d_Mo_simple_144 (by decide) ?_
        refine ev_ladd d_Mo_simple_145 ?_
        refine em_putJ (i := 52) hG d_Mo_simple_146 fo_Mo_243 rfl rfl (by decide) mv_52 (fun G hG => ?_)
        refine ev_goto 122 d_Mo_simple_149 (by decide) ?_
        rw [va_up2, lN_1] at hG
        exact ih (tm + 1) G (by omega) (by omega) hG
    refine loop (E - qT q) (qT q) G (by omega) (Nat.le_refl _) ?_
    rw [← a3, va_up0]
    exact hG
theorem c_Mo_simple (hG : mo_at G0 a A I J M W G) (hm : mr_ok z r t q I J M W) (hq : rq_ok q) (hr : r < 8) (ht : t ≤ 12) (hs : s < 1200) (hms : ms_ok M W c s g nl nf) (hsk : sk_ok g nl nf) (ha : ma_at N av at' ax I M W) (hok : ma_ok N n kf vf av at' ax) (h55 : I 55 = 0) (hk : g 0 = 1 ∨ g 0 = 2 ∨ g 0 = 3 ∨ g 0 = 4 ∨ g 0 = 5) : cn_M l X m_Mo_simple 3 0 0 [.ref a, .int (nI s), .int (nI t)] G (si_Q G0 a A z r t q I J M W (rs_do n kf vf s g q)) := by
  refine cn_in rfl (Nat.le_of_ble_eq_true rfl) ?_
  rcases hk with hk | hk | hk | hk | hk
  · exact mo_si1 hG hm hq hr ht hs hms hsk ha hok h55 hk
  · exact mo_si2 hG hm hq hr ht hs hms hsk ha hok h55 hk
  · exact mo_si3 hG hm hq hr ht hs hms hsk ha hok h55 hk
  · exact mo_si4 hG hm hq hr ht hs hms hsk ha hok h55 hk
  · exact mo_si5 hG hm hq hr ht hs hms hsk ha hok h55 hk
end SI
