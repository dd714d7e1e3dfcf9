/-! THE MODEL RUNS: test, all of it -/
theorem mpl_ok.ft {z : pz} {c r : Nat} {I I' : Nat → Int32} {J J' : Nat → Int64} {M M' : Nat → Nat → Int32} {W W' : Nat → Nat → Int64} (h : mpl_ok z c M W) (f : mt_fr r I I' J J' M M' W W') : mpl_ok z c M' W' := by
  obtain ⟨h1, h2, h3, h4, h5⟩ := h
  have fm : ∀ k, k ≠ 19 → k ≠ 20 → k ≠ 21 → k ≠ 33 → k ≠ 37 → k ≠ 45 → k ≠ 46 → k ≠ 50 → k ≠ 56 → k ≠ 59 → M' k = M k := f.2.2.1
  have fw : ∀ k, k ≠ 22 → k ≠ 47 → k ≠ 48 → k ≠ 57 → k ≠ 58 → W' k = W k := f.2.2.2.2.2.1
  have e17 : M' 17 = M 17 := fm 17 (by decide) (by decide) (by decide) (by decide) (by decide) (by decide) (by decide) (by decide) (by decide) (by decide)
  have e18 : M' 18 = M 18 := fm 18 (by decide) (by decide) (by decide) (by decide) (by decide) (by decide) (by decide) (by decide) (by decide) (by decide)
  have e31 : M' 31 = M 31 := fm 31 (by decide) (by decide) (by decide) (by decide) (by decide) (by decide) (by decide) (by decide) (by decide) (by decide)
  refine ⟨h1, fun i hi => ms_cg (h2 i hi) (fun k k1 k2 => ?_) (fw 27 (by decide) (by decide) (by decide) (by decide) (by decide)) (fw 28 (by decide) (by decide) (by decide) (by decide) (by decide)) (fw 35 (by decide) (by decide) (by decide) (by decide) (by decide)), fun i hi hb => by rw [e31]; exact h3 i hi hb, fun i hi => by rw [e17, e18]; exact h4 i hi, by rw [e17]; exact h5⟩
  exact fm k (by omega) (by omega) (by omega) (by omega) (by omega) (by omega) (by omega) (by omega) (by omega) (by omega)
theorem ma_at.ft {N r : Nat} {av at' : Nat → Nat} {ax : Nat → Int32} {I I' : Nat → Int32} {J J' : Nat → Int64} {M M' : Nat → Nat → Int32} {W W' : Nat → Nat → Int64} (h : ma_at N av at' ax I M W) (f : mt_fr r I I' J J' M M' W W') : ma_at N av at' ax I' M' W' := by
  unfold ma_at
  rw [f.1 38 (by decide) (by decide) (by decide) (by decide), f.2.2.1 39 (by decide) (by decide) (by decide) (by decide) (by decide) (by decide) (by decide) (by decide) (by decide) (by decide), f.2.2.2.2.2.1 40 (by decide) (by decide) (by decide) (by decide) (by decide), f.2.2.2.2.2.1 41 (by decide) (by decide) (by decide) (by decide) (by decide)]
  exact h
theorem fb_v {m : Int32} {f : Nat} : vp_nar .boolean (fb m f) = fb m f := by
  rcases fb_01 (m := m) (f := f) with h | h <;> rw [h] <;> rfl
theorem rs_fin_12 {s : rs_T} : (qW (rs_fin s)).1 = (qW s).1 ∧ (qW (rs_fin s)).2.1 = (qW s).2.1 := by
  unfold rs_fin
  split
  · exact ⟨rfl, rfl⟩
  · exact ⟨rfl, rfl⟩
section MTT
variable {l : Launch} {X : pm_X} {G G0 : pm_G} {a : Nat} {A : Nat → Nat} {I : Nat → Int32} {J : Nat → Int64} {M : Nat → Nat → Int32} {W : Nat → Nat → Int64} {z : pz} {lv : Nat → Nat} {r i c n N : Nat} {p : Int32} {q : rr_T} {kf : Nat → Nat} {vf : Nat → Int32} {av at' : Nat → Nat} {ax : Nat → Int32} {s2 : rs_T} {ab : Bool}
def te_Q (G0 : pm_G) (a : Nat) (A : Nat → Nat) (z : pz) (r i : Nat) (p : Int32) (I : Nat → Int32) (J : Nat → Int64) (M : Nat → Nat → Int32) (W : Nat → Nat → Int64) (s2 : rs_T) (q2 : rr_T) (y : Option Value) (G' : pm_G) : Prop := y = none ∧ ∃ I' J' M' W', mo_at G0 a A I' J' M' W' G' ∧ mt_fr r I I' J J' M M' W W' ∧ mrr z r p (i + 1) q2 I' J' M' W' ∧ rrq (i + 1) q2 ∧ rq_ok s2 ∧ M' 20 (i + 1) = (qW (rs_fin s2)).1
set_option maxHeartbeats 1000000 in
theorem mo_test_end {oc : Nat} {I4 : Nat → Int32} {J4 : Nat → Int64} {M4 : Nat → Nat → Int32} {W4 : Nat → Nat → Int64} (hr : r < 8) (hi : i < zTn z) (hz : pz_ok z) (hm : mrr z r p i q I J M W) (hq : rrq i q) (hoc : oc ≤ 2) (h55 : I4 55 = nI oc) (h4 : (oc ≠ 2 ∧ mr_ok z r (i + 1) s2 I4 J4 M4 W4 ∧ rq_ok s2) ∨ (oc = 2 ∧ ∃ q0, qN q0 = 2000 ∧ s2 = rs_spent q0 ∧ mr_ok z r (i + 1) q0 I4 J4 M4 W4 ∧ rq_ok q0)) (hf : mt_fr r I I4 J J4 M M4 W W4) (i49 : I4 49 = I 49) (m50 : M4 50 = M 50) (m19 : M4 19 = if ab = true then upd (M 19) (i + 1) (M 19 (i + 1) + 1) else M 19) (m20 : ∀ j, j ≠ i + 1 → M4 20 j = M 20 j ∧ M4 21 j = M 21 j ∧ W4 22 j = W 22 j) (hG : mo_at G0 a A I4 J4 M4 W4 G) : ev_W l X m_Mo_test 5 0 0 (te_Q G0 a A z r i p I J M W s2 (rr_next p i s2 ab q)) 0 0 138 [(0, .ref a), (1, .int (nI (i + 1))), (2, .int (nI 9))] [] G := by
  obtain ⟨b1, b2, b3, b4, b5, b6, b7, b8, b9, b10, b11⟩ := hm
  have t12 := hz.1.2.2.1
  have m42 : M4 42 = M 42 := hf.2.2.1 42 (by decide) (by decide) (by decide) (by decide) (by decide) (by decide) (by decide) (by decide) (by decide) (by decide)
  refine mo_test_fin h55 hoc hr (by omega) h4 (fun I5 M5 W5 G hf5 hm5 hq5 w22 hG => ?_) hG
  obtain ⟨a1, a2, a3, a4, a5, a6, a7, a8, a9, a10, a11, a12, a13⟩ := id hm5
  have j50 : M5 50 = M 50 := (hf5.2.2.1 50 (by decide) (by decide) (by decide) (by decide) (by decide) (by decide) (by decide) (by decide)).trans m50
  have j42 : M5 42 = M 42 := (hf5.2.2.1 42 (by decide) (by decide) (by decide) (by decide) (by decide) (by decide) (by decide) (by decide)).trans m42
  have j19 : M5 19 = M4 19 := hf5.2.2.1 19 (by decide) (by decide) (by decide) (by decide) (by decide) (by decide) (by decide) (by decide)
  have j49 : I5 49 = nI (yu q) := (hf5.1 49 (by decide) (by decide) (by decide)).trans (i49.trans b7)
  have hu := hq.2.2.2
  refine mo_test_un (qf := qF s2) (p := p) (u := yu q) (U := yU q) j49 (by omega) (fun j hj => by rw [j50]; exact b8 j hj) a4 (fun f f1 f2 => by rw [j42]; exact b9 f f1 f2) (fun f G hff hG => ?_) hG
  refine ⟨rfl, _, _, _, _, hG, ((hf.tr hf5.mt).i (by decide)).m (by decide), ⟨a1, a2, a7, a8, a9, a13, va_up_s, fun j hj => (congrFun va_up_s j).trans (hff j hj), fun g g1 g2 => ?_, fun j hj => ?_, fun j hj => ?_⟩, ⟨hq5.1, hq5.2.2.2.2.1, hq5.2.2.2.2.2.1, ?_⟩, hq5, a10.trans rs_fin_12.1.symm⟩
  · show M5 42 g = fb p g
    rw [j42]; exact b9 g g1 g2
  · show M5 20 (j + 1) = va_up (yT q) i (te_W (if ab = true then upd (yT q i) 5 (yT q i 5 + 1) else yT q i) (qW (rs_fin s2))) j 6 ∧ M5 21 (j + 1) = va_up (yT q) i (te_W (if ab = true then upd (yT q i) 5 (yT q i 5 + 1) else yT q i) (qW (rs_fin s2))) j 7 ∧ W5 22 (j + 1) = (va_up (yT q) i (te_W (if ab = true then upd (yT q i) 5 (yT q i 5 + 1) else yT q i) (qW (rs_fin s2))) j 8).toInt64
    by_cases y : j = i
    · rw [y, va_up_s]
      exact ⟨a10.trans rs_fin_12.1.symm, a11.trans rs_fin_12.2.symm, w22⟩
    · rw [va_up_n y]
      have k1 := m20 (j + 1) (by omega)
      have k2 := hf5.2.2.2.1 (j + 1) (by omega)
      have k3 := hf5.2.2.2.2.2.2.2.1 (j + 1) (by omega)
      have k4 := b10 j (by omega)
      exact ⟨k2.1.trans (k1.1.trans k4.1), k2.2.trans (k1.2.1.trans k4.2.1), k3.trans (k1.2.2.trans k4.2.2)⟩
  · show M5 19 (j + 1) = va_up (yT q) i (te_W (if ab = true then upd (yT q i) 5 (yT q i 5 + 1) else yT q i) (qW (rs_fin s2))) j 5
    rw [j19, m19]
    by_cases y : j = i
    · rw [y, va_up_s]
      show (if ab = true then upd (M 19) (i + 1) (M 19 (i + 1) + 1) else M 19) (i + 1) = (if ab = true then upd (yT q i) 5 (yT q i 5 + 1) else yT q i) 5
      rw [b11 i hi]
      cases ab with
      | true => exact pk_us.trans (pk_us (f := yT q i) (k := 5) (x := yT q i 5 + 1)).symm
      | false => exact b11 i hi
    · rw [va_up_n y]
      cases ab with
      | true => exact (pk_un (by omega)).trans (b11 j hj)
      | false => exact b11 j hj
  · show (uf_R (qF s2 &&& (p ^^^ (-1))) (yu q) (yU q) 8).1 ≤ 8 * (i + 1)
    have := uf_R_le (qF s2 &&& (p ^^^ (-1))) (yu q) (yU q) 8
    omega
set_option maxHeartbeats 2000000 in
theorem c_Mo_test (hz : pz_ok z) (hn : pz_n z lv) (hr : r < 8) (hi : i < zTn z) (hpl : mpl_ok z c M W) (ha : ma_at N av at' ax I M W) (hok : ma_ok N n kf vf av at' ax) (hm : mrr z r p i q I J M W) (hq : rrq i q) (htt : tt_R n kf vf (zSD z) (zNl z) (zNf z) (zBh z) (zFi z i) (zBe z i) (zAl z i) (rr_start p q) s2 ab) (hG : mo_at G0 a A I J M W G) : cn_M l X m_Mo_test 5 0 0 [.ref a, .int (nI (i + 1))] G (te_Q G0 a A z r i p I J M W s2 (rr_next p i s2 ab q)) := by
  obtain ⟨b1, b2, b3, b4, b5, b6, b7, b8, b9, b10, b11⟩ := id hm
  have hpt := pz_pt hz.1 hn
  obtain ⟨-, -, p3, p4, p5, -, p7⟩ := hpt i hi
  have t12 := hz.1.2.2.1
  have snb := hz.1.sn
  refine cn_in rfl (Nat.le_of_ble_eq_true rfl) ?_
  -- behind the first lines
  have start : ∀ (f : Nat → Int64) (g : Nat → Int32) (G : pm_G), (∀ v, v ≤ 20 → f v = -1) → (∀ k, 1 ≤ k → k < 9 → g k = fb p k) → mo_at G0 a A I (va_up J 52 0) (va_up (va_up (va_up M 20 (upd (M 20) (i + 1) 0)) 21 (upd (M 21) (i + 1) 0)) 56 g) (va_up W 58 f) G → ev_W l X m_Mo_test 5 0 0 (te_Q G0 a A z r i p I J M W s2 (rr_next p i s2 ab q)) 0 0 68 [(0, .ref a), (1, .int (nI (i + 1))), (2, .int (nI 9))] [] G := by
    intro f g G hf hg hG
    have hf1 : mt_fr r I I J (va_up J 52 0) M (va_up (va_up (va_up M 20 (upd (M 20) (i + 1) 0)) 21 (upd (M 21) (i + 1) 0)) 56 g) W (va_up W 58 f) := ((((mt_fr.rf.j (by decide)).m (by decide)).m (by decide)).m (by decide)).w (by decide)
    have hm1 : mr_ok z r (i + 1) (rr_start p q) I (va_up J 52 0) (va_up (va_up (va_up M 20 (upd (M 20) (i + 1) 0)) 21 (upd (M 21) (i + 1) 0)) 56 g) (va_up W 58 f) := by
      refine ⟨b1, b2, rfl, fun k k1 k2 => (congrFun va_up_s k).trans (hg k k1 k2), fun v hv => (congrFun va_up_s v).trans ((hf v hv).trans (show (-1 : Int64) = (bhI 0).toInt64 by decide)), fun v hv w => absurd rfl w, b3, b4, b5, ?_, ?_, fun w => absurd rfl w, b6⟩
      · exact (congrFun (va_up_n (f := va_up (va_up M 20 (upd (M 20) (i + 1) 0)) 21 (upd (M 21) (i + 1) 0)) (by decide)) _).trans ((congrFun (va_up_n (by decide)) _).trans ((congrFun va_up_s _).trans pk_us))
      · exact (congrFun (va_up_n (by decide)) _).trans ((congrFun va_up_s _).trans pk_us)
    have hq1 : rq_ok (rr_start p q) := ⟨hq.1, Nat.zero_le _, fun v hv => Nat.le_refl _, fun v hv w => absurd rfl w, hq.2.1, hq.2.2.1, Or.inl rfl, fun _ => rfl⟩
    have x20 : ∀ j, j ≠ i + 1 → va_up (va_up (va_up M 20 (upd (M 20) (i + 1) 0)) 21 (upd (M 21) (i + 1) 0)) 56 g 20 j = M 20 j ∧ va_up (va_up (va_up M 20 (upd (M 20) (i + 1) 0)) 21 (upd (M 21) (i + 1) 0)) 56 g 21 j = M 21 j := fun j hj => ⟨pk_un hj, pk_un hj⟩
    have x19 : va_up (va_up (va_up M 20 (upd (M 20) (i + 1) 0)) 21 (upd (M 21) (i + 1) 0)) 56 g 19 = M 19 := rfl
    have x50 : va_up (va_up (va_up M 20 (upd (M 20) (i + 1) 0)) 21 (upd (M 21) (i + 1) 0)) 56 g 50 = M 50 := rfl
    have x22 : va_up W 58 f 22 = W 22 := rfl
    generalize va_up (va_up (va_up M 20 (upd (M 20) (i + 1) 0)) 21 (upd (M 21) (i + 1) 0)) 56 g = M1 at hG hf1 hm1 x20 x19 x50
    generalize va_up W 58 f = W1 at hG hf1 hm1 x22
    generalize va_up J 52 0 = J1 at hG hf1 hm1
    have hpl1 := hpl.ft hf1
    have ha1 := ha.ft hf1
    have g17 : M1 17 (i + 1) = nI (zFi z i) := (hpl1.2.2.2.1 i hi).1
    have g17b : M1 17 (i + 1 + 1) = nI (zBe z i) := by
      unfold zBe
      by_cases y : i + 1 < zTn z
      · rw [if_pos y]; exact (hpl1.2.2.2.1 (i + 1) y).1
      · rw [if_neg y, show i + 1 + 1 = zTn z + 1 by omega]; exact hpl1.2.2.2.2 (by omega)
    obtain ⟨c1, ⟨m1, hc1⟩, hd1, hcase⟩ := htt
    refine ev_aload_n d_Mo_test_68 rfl rfl ?_
    refine ev_aload_n d_Mo_test_69 rfl rfl ?_
    refine em_getA (i := 17) hG d_Mo_test_70 fo_Mo_28 rfl ?_
    refine ev_iload_n d_Mo_test_73 rfl rfl ?_
    refine em_iald (i := 17) (N := 14) hG d_Mo_test_74 rfl rfl (by decide) (by omega) (by (repeat (first | apply va_up_mt (h := by decide) | apply va_up_ms | apply pk_ut (h := by omega) | apply pk_uLt (h := by omega) | exact pk_us | exact pk_uLs | assumption)); all_goals rfl) ?_
    refine ev_aload_n d_Mo_test_75 rfl rfl ?_
    refine em_getA (i := 17) hG d_Mo_test_76 fo_Mo_28 rfl ?_
    refine ev_iload_n d_Mo_test_79 rfl rfl ?_
    refine ev_iconst (v := 1) d_Mo_test_80 (by decide) ?_
    refine ev_iadd d_Mo_test_81 ?_
    rw [nI_1]
    refine em_iald (i := 17) (N := 14) hG d_Mo_test_82 rfl rfl (by decide) (by omega) (by (repeat (first | apply va_up_mt (h := by decide) | apply va_up_ms | apply pk_ut (h := by omega) | apply pk_uLt (h := by omega) | exact pk_us | exact pk_uLs | assumption)); all_goals rfl) ?_
    refine ev_iload_n d_Mo_test_83 rfl rfl ?_
    refine ev_callV3 d_Mo_test_84 ck_Mo_go ml_Mo_294 im_Mo_go se_Mo_go rfl hG.1 (c_Mo_go (c := c) (st := zFi z i) (en := zBe z i) (t := i + 1) (q := rr_start p q) (cf := c1) (m := m1) hz hn hr (by omega) hpl1 ha1 hok p3 p4 p5 hc1 hd1 hm1 hq1 hG) (by omega) (Nat.le_of_ble_eq_true rfl) (by omega) (by omega) ?_
    rintro _ G ⟨rfl, I2, J2, M2, W2, hG, hf2, o55, hoc, hst⟩
    have hfa := hf1.tr hf2.mt
    have y49 : I2 49 = I 49 := hf2.1 49 (by decide) (by decide) (by decide)
    have y50 : M2 50 = M 50 := (hf2.2.2.1 50 (by decide) (by decide) (by decide) (by decide) (by decide) (by decide) (by decide) (by decide)).trans x50
    have y19 : M2 19 = M 19 := (hf2.2.2.1 19 (by decide) (by decide) (by decide) (by decide) (by decide) (by decide) (by decide) (by decide)).trans x19
    have y20 : ∀ j, j ≠ i + 1 → M2 20 j = M 20 j ∧ M2 21 j = M 21 j ∧ W2 22 j = W 22 j := fun j hj => ⟨(hf2.2.2.2.1 j hj).1.trans (x20 j hj).1, (hf2.2.2.2.1 j hj).2.trans (x20 j hj).2, (hf2.2.2.2.2.2.2.2.1 j hj).trans (congrFun x22 j)⟩
    have hpl2 := hpl.ft hfa
    have g18 : M2 18 (i + 1) = bhI ((zAl z i).elim 0 (· + 1)) := (hpl2.2.2.2.1 i hi).2
    have noab : ab = false → s2 = c1.2.2.1 → ev_W l X m_Mo_test 5 0 0 (te_Q G0 a A z r i p I J M W s2 (rr_next p i s2 ab q)) 0 0 138 [(0, .ref a), (1, .int (nI (i + 1))), (2, .int (nI 9))] [] G := by
      intro hab hs2
      subst hs2
      subst hab
      exact mo_test_end hr hi hz hm hq hoc o55 hst hfa y49 y50 y19 y20 hG
    refine ev_aload_n d_Mo_test_87 rfl rfl ?_
    refine em_getI (i := 55) hG d_Mo_test_88 fo_Mo_253 rfl (by (repeat (first | apply va_up_t (h := by decide) | apply mo_w_t (h5 := by decide) (h7 := by decide) (h8 := by decide) | exact va_up_s | exact mo_w_5 | exact mo_w_7 | exact mo_w_8 | assumption)); all_goals rfl) ?_
    refine ev_iconst (v := 2) d_Mo_test_91 (by decide) ?_
    by_cases ho : c1.2.2.2 = 2
    · refine ev_icmp_eq 138 d_Mo_test_92 (by decide) (fun _ => ?_) (fun w => absurd (by rw [ho]; rfl) w)
      rcases hcase with ⟨h1, h2, -⟩ | ⟨-, h2, -⟩
      · exact noab h1 h2
      · exact absurd ho h2
    · refine ev_icmp_eq 138 d_Mo_test_92 (by decide) (fun w => absurd ((nI_eq (by omega) (b := 2) (by omega)).mp w) ho) (fun _ => ?_)
      refine ev_aload_n d_Mo_test_95 rfl rfl ?_
      refine em_getA (i := 18) hG d_Mo_test_96 fo_Mo_31 rfl ?_
      refine ev_iload_n d_Mo_test_99 rfl rfl ?_
      refine em_iald (i := 18) (N := 13) hG d_Mo_test_100 rfl rfl (by decide) (by omega) (by (repeat (first | apply va_up_mt (h := by decide) | apply va_up_ms | apply pk_ut (h := by omega) | apply pk_uLt (h := by omega) | exact pk_us | exact pk_uLs | assumption)); all_goals rfl) ?_
      rcases hcase with ⟨h1, h2, h3⟩ | ⟨h1, -, al, c2, h2, ⟨m2, hc2⟩, hd2, h5⟩
      · have hal : zAl z i = none := h3.resolve_right ho
        rw [hal]
        refine ev_if_lt 138 d_Mo_test_101 (by decide) (fun _ => ?_) (fun w => absurd (show bhI ((none : Option Nat).elim 0 (· + 1)) < 0 by decide) w)
        exact noab h1 h2
      · obtain ⟨al1, al2⟩ := p7 al h2
        have hal8 := (hn.2.2.2.2.2.2.2.2.2 i al hi h2).2.2
        have eal : bhI ((zAl z i).elim 0 (· + 1)) = nI al := by rw [h2]; exact bhI_s
        rw [eal] at g18 ⊢
        refine ev_if_lt 138 d_Mo_test_101 (by decide) (fun w => absurd w (nI_pos (by omega))) (fun _ => ?_)
        have hrest := (hst.resolve_right (fun w => ho w.1)).2
        obtain ⟨w19, hw19⟩ : ∃ y, M2 19 (i + 1) = y := ⟨_, rfl⟩
        have x31 := hpl2.2.2.1 al (by omega) (bk_8 hal8)
        have hbb := hn.2.1 al (by omega)
        refine ev_aload_n d_Mo_test_104 rfl rfl ?_
        refine em_getA (i := 19) hG d_Mo_test_105 fo_Mo_34 rfl ?_
        refine ev_iload_n d_Mo_test_108 rfl rfl ?_
        first | refine ev_dup2l d_Mo_test_109 rfl ?_ | refine ev_dup2 d_Mo_test_109 rfl rfl ?_
        refine em_iald (i := 19) (N := 13) hG d_Mo_test_110 rfl rfl (by decide) (by omega) (by (repeat (first | apply va_up_mt (h := by decide) | apply va_up_ms | apply pk_ut (h := by omega) | apply pk_uLt (h := by omega) | exact pk_us | exact pk_uLs | assumption)); all_goals rfl) ?_
        refine ev_iconst (v := 1) d_Mo_test_111 (by decide) ?_
        refine ev_iadd d_Mo_test_112 ?_
        have hf3 : mt_fr r I I2 J J2 M (va_up M2 19 (upd (M2 19) (i + 1) (w19 + 1))) W W2 := hfa.m (by decide)
        refine em_iast (i := 19) (N := 13) hG d_Mo_test_113 rfl rfl (by decide) (by omega) (fun G hG => ?_)
        refine ev_aload_n d_Mo_test_114 rfl rfl ?_
        refine ev_aload_n d_Mo_test_115 rfl rfl ?_
        refine em_getA (i := 18) hG d_Mo_test_116 fo_Mo_31 rfl ?_
        refine ev_iload_n d_Mo_test_119 rfl rfl ?_
        refine em_iald (i := 18) (N := 13) hG d_Mo_test_120 rfl rfl (by decide) (by omega) (by (repeat (first | apply va_up_mt (h := by decide) | apply va_up_ms | apply pk_ut (h := by omega) | apply pk_uLt (h := by omega) | exact pk_us | exact pk_uLs | assumption)); all_goals rfl) ?_
        refine ev_iconst (v := 1) d_Mo_test_121 (by decide) ?_
        refine ev_iadd d_Mo_test_122 ?_
        rw [nI_1]
        refine ev_aload_n d_Mo_test_123 rfl rfl ?_
        refine em_getA (i := 31) hG d_Mo_test_124 fo_Mo_68 rfl ?_
        refine ev_aload_n d_Mo_test_127 rfl rfl ?_
        refine em_getA (i := 18) hG d_Mo_test_128 fo_Mo_31 rfl ?_
        refine ev_iload_n d_Mo_test_131 rfl rfl ?_
        refine em_iald (i := 18) (N := 13) hG d_Mo_test_132 rfl rfl (by decide) (by omega) (by (repeat (first | apply va_up_mt (h := by decide) | apply va_up_ms | apply pk_ut (h := by omega) | apply pk_uLt (h := by omega) | exact pk_us | exact pk_uLs | assumption)); all_goals rfl) ?_
        refine em_iald (i := 31) (N := 1200) hG d_Mo_test_133 rfl rfl (by decide) (by omega) (by (repeat (first | apply va_up_mt (h := by decide) | apply va_up_ms | apply pk_ut (h := by omega) | apply pk_uLt (h := by omega) | exact pk_us | exact pk_uLs | assumption)); all_goals rfl) ?_
        refine ev_iload_n d_Mo_test_134 rfl rfl ?_
        subst h5
        subst h1
        refine ev_callV3 d_Mo_test_135 ck_Mo_go ml_Mo_294 im_Mo_go se_Mo_go rfl hG.1 (c_Mo_go (c := c) (st := al + 1) (en := zBh z al) (t := i + 1) (q := c1.2.2.1) (cf := c2) (m := m2) hz hn hr (by omega) (hpl.ft hf3) (ha.ft hf3) hok hbb.1 hbb.2 (fun j j1 j2 => (al2 j (by omega) j2).2) hc2 hd2 hrest.1 hrest.2 hG) (by omega) (Nat.le_of_ble_eq_true rfl) (by omega) (by omega) ?_
        rintro _ G ⟨rfl, I4, J4, M4, W4, hG, hf4, o55b, hoc2, hst2⟩
        refine mo_test_end hr hi hz hm hq hoc2 o55b hst2 (hf3.tr hf4.mt) ?_ ?_ ?_ (fun j hj => ?_) hG
        · exact (hf4.1 49 (by decide) (by decide) (by decide)).trans y49
        · exact (hf4.2.2.1 50 (by decide) (by decide) (by decide) (by decide) (by decide) (by decide) (by decide) (by decide)).trans y50
        · rw [hf4.2.2.1 19 (by decide) (by decide) (by decide) (by decide) (by decide) (by decide) (by decide) (by decide), va_up_s, ← hw19, y19]; rfl
        · exact ⟨(hf4.2.2.2.1 j hj).1.trans (y20 j hj).1, (hf4.2.2.2.1 j hj).2.trans (y20 j hj).2.1, (hf4.2.2.2.2.2.2.2.1 j hj).trans (y20 j hj).2.2⟩
  have loopB : ∀ (m k : Nat) (f : Nat → Int64) (g : Nat → Int32) (G : pm_G), k + m = 9 → 1 ≤ k → (∀ v, v ≤ 20 → f v = -1) → (∀ j, 1 ≤ j → j < k → g j = fb p j) → mo_at G0 a A I (va_up J 52 0) (va_up (va_up (va_up M 20 (upd (M 20) (i + 1) 0)) 21 (upd (M 21) (i + 1) 0)) 56 g) (va_up W 58 f) G → ev_W l X m_Mo_test 5 0 0 (te_Q G0 a A z r i p I J M W s2 (rr_next p i s2 ab q)) 0 0 44 [(0, .ref a), (1, .int (nI (i + 1))), (2, .int (nI k))] [] G := by
    intro m
    induction m with
    | zero =>
      intro k f g G hk hk1 hf hg hG
      have k9 : k = 9 := by omega
      subst k9
      refine ev_iload_n d_Mo_test_44 rfl rfl ?_
      refine ev_bipush (v := 9) d_Mo_test_45 (by decide) ?_
      refine ev_icmp_ge 68 d_Mo_test_47 (by decide) (fun _ => ?_) (fun w => absurd (show (9 : Int32) ≤ nI 9 by decide) w)
      exact start f g G hf hg hG
    | succ m ih =>
      intro k f g G hk hk1 hf hg hG
      have h42 := b9 k hk1 (by omega)
      have hbv : vp_nar .boolean (fb p k) = fb p k := fb_v
      refine ev_iload_n d_Mo_test_44 rfl rfl ?_
      refine ev_bipush (v := 9) d_Mo_test_45 (by decide) ?_
      refine ev_icmp_ge 68 d_Mo_test_47 (by decide) (fun w => absurd w (nI_ge (b := 9) (by omega) (by omega))) (fun _ => ?_)
      refine ev_aload_n d_Mo_test_50 rfl rfl ?_
      refine em_getA (i := 56) hG d_Mo_test_51 fo_Mo_115 rfl ?_
      refine ev_iload_n d_Mo_test_54 rfl rfl ?_
      refine ev_aload_n d_Mo_test_55 rfl rfl ?_
      refine em_getA (i := 42) hG d_Mo_test_56 fo_Mo_93 rfl ?_
      refine ev_iload_n d_Mo_test_59 rfl rfl ?_
      refine em_zald (i := 42) (N := 9) hG d_Mo_test_60 rfl rfl (by decide) (by omega) (by (repeat (first | apply va_up_mt (h := by decide) | apply va_up_ms | apply pk_ut (h := by omega) | apply pk_uLt (h := by omega) | exact pk_us | exact pk_uLs | assumption)); all_goals rfl) ?_
      refine em_zast (i := 56) (N := 9) hG d_Mo_test_61 rfl rfl (by decide) (by omega) (by first | assumption | exact cI_v | decide) (fun G hG => ?_)
      refine ev_iinc d_Mo_test_62 rfl (by first | exact nI_1 _ | rfl) (by decide) ?_
      refine ev_goto 44 d_Mo_test_65 (by decide) ?_
      rw [va_up2, va_up_s] at hG
      refine ih (k + 1) f _ G (by omega) (by omega) hf (fun j j1 j2 => ?_) hG
      by_cases y : j = k
      · rw [y, pk_us]
      · rw [pk_un y]; exact hg j j1 (by omega)
  have loopA : ∀ (m k : Nat) (f : Nat → Int64) (G : pm_G), k + m = 21 → (∀ v, v < k → f v = -1) → mo_at G0 a A I (va_up J 52 0) (va_up (va_up M 20 (upd (M 20) (i + 1) 0)) 21 (upd (M 21) (i + 1) 0)) (va_up W 58 f) G → ev_W l X m_Mo_test 5 0 0 (te_Q G0 a A z r i p I J M W s2 (rr_next p i s2 ab q)) 0 0 21 [(0, .ref a), (1, .int (nI (i + 1))), (2, .int (nI k))] [] G := by
    intro m
    induction m with
    | zero =>
      intro k f G hk hf hG
      have k21 : k = 21 := by omega
      subst k21
      refine ev_iload_n d_Mo_test_21 rfl rfl ?_
      refine ev_bipush (v := 21) d_Mo_test_22 (by decide) ?_
      refine ev_icmp_ge 42 d_Mo_test_24 (by decide) (fun _ => ?_) (fun w => absurd (show (21 : Int32) ≤ nI 21 by decide) w)
      refine ev_iconst (v := 1) d_Mo_test_42 (by decide) ?_
      refine ev_istore_n d_Mo_test_43 rfl (by decide) ?_
      refine loopB 8 1 f (M 56) G (by omega) (by omega) (fun v hv => hf v (by omega)) (fun j j1 j2 => by omega) ?_
      rw [show va_up (va_up (va_up M 20 (upd (M 20) (i + 1) 0)) 21 (upd (M 21) (i + 1) 0)) 56 (M 56) = va_up (va_up M 20 (upd (M 20) (i + 1) 0)) 21 (upd (M 21) (i + 1) 0) from va_up0 (f := va_up (va_up M 20 (upd (M 20) (i + 1) 0)) 21 (upd (M 21) (i + 1) 0)) (k := 56)]
      exact hG
    | succ m ih =>
      intro k f G hk hf hG
      refine ev_iload_n d_Mo_test_21 rfl rfl ?_
      refine ev_bipush (v := 21) d_Mo_test_22 (by decide) ?_
      refine ev_icmp_ge 42 d_Mo_test_24 (by decide) (fun w => absurd w (nI_ge (b := 21) (by omega) (by omega))) (fun _ => ?_)
      refine ev_aload_n d_Mo_test_27 rfl rfl ?_
      refine em_getA (i := 58) hG d_Mo_test_28 fo_Mo_121 rfl ?_
      refine ev_iload_n d_Mo_test_31 rfl rfl ?_
      refine ev_ldc2 d_Mo_test_32 hw_1205 ?_
      refine em_last (i := 58) (N := 21) hG d_Mo_test_35 rfl rfl (by decide) (by omega) (fun G hG => ?_)
      refine ev_iinc d_Mo_test_36 rfl (by first | exact nI_1 _ | rfl) (by decide) ?_
      refine ev_goto 21 d_Mo_test_39 (by decide) ?_
      rw [va_up2, va_up_s] at hG
      refine ih (k + 1) _ G (by omega) (fun v hv => ?_) hG
      by_cases y : v = k
      · rw [y, pk_uLs]
      · rw [pk_uLn y]; exact hf v (by omega)
  refine ev_aload_n d_Mo_test_0 rfl rfl ?_
  refine ev_lconst (v := 0) d_Mo_test_1 (by decide) ?_
  refine em_putJ (i := 52) hG d_Mo_test_2 fo_Mo_243 rfl rfl (by decide) mv_52 (fun G hG => ?_)
  refine ev_aload_n d_Mo_test_5 rfl rfl ?_
  refine em_getA (i := 20) hG d_Mo_test_6 fo_Mo_37 rfl ?_
  refine ev_iload_n d_Mo_test_9 rfl rfl ?_
  refine ev_iconst (v := 0) d_Mo_test_10 (by decide) ?_
  refine em_iast (i := 20) (N := 13) hG d_Mo_test_11 rfl rfl (by decide) (by omega) (fun G hG => ?_)
  refine ev_aload_n d_Mo_test_12 rfl rfl ?_
  refine em_getA (i := 21) hG d_Mo_test_13 fo_Mo_40 rfl ?_
  refine ev_iload_n d_Mo_test_16 rfl rfl ?_
  refine ev_iconst (v := 0) d_Mo_test_17 (by decide) ?_
  refine em_iast (i := 21) (N := 13) hG d_Mo_test_18 rfl rfl (by decide) (by omega) (fun G hG => ?_)
  refine ev_iconst (v := 0) d_Mo_test_19 (by decide) ?_
  refine ev_istore_n d_Mo_test_20 rfl (by decide) ?_
  refine loopA 21 0 (W 58) G (by omega) (fun v hv => by omega) ?_
  rw [va_up0]
  exact hG
end MTT
