/-! THE LAW: run, read -/
theorem te_Wn {d : Nat → Int32} {w : Int32 × Int32 × Int32} {f : Nat} (hf : f < 5) : te_W d w f = d f := by
  unfold te_W
  rw [pk_un (by omega), pk_un (by omega), pk_un (by omega)]
theorem rr_td {n : Nat} {kf : Nat → Nat} {vf : Nat → Int32} {sd : Nat → Nat → Int32} {nl : Nat → Nat} {nf : Nat → Nat → Int32} {bh fi be : Nat → Nat} {al : Nat → Option Nat} {p : Int32} {q0 : rr_T} : ∀ (i : Nat) (q : rr_T), rr_R n kf vf sd nl nf bh fi be al p q0 i q → ∀ j f, f < 5 → yT q j f = yT q0 j f := by
  intro i
  induction i with
  | zero => intro q h j f hf; rw [show q = q0 from h]
  | succ i ih =>
    rintro q ⟨q1, s2, ab, h1, -, rfl⟩ j f hf
    rw [← ih q1 h1 j f hf]
    show va_up (yT q1) i (te_W (if ab = true then upd (yT q1 i) 5 (yT q1 i 5 + 1) else yT q1 i) (qW (rs_fin s2))) j f = _
    by_cases e : j = i
    · subst e
      rw [va_up_s, te_Wn hf]
      split
      · rw [pk_un (by omega)]
      · rfl
    · rw [va_up_n e]
theorem pz_rd_ok {sg : Nat → Nat} {n : Nat} : ∀ (fu k b : Nat) (z z' : pz), pz_ok z → (pz_rd sg n fu k b z).2 = some z' → pz_ok z' := by
  intro fu
  induction fu with
  | zero => intro k b z z' h hr; cases hr; exact h
  | succ fu ih =>
    intro k b z z' hz hr
    rw [pz_rd] at hr
    by_cases q : b < n
    · rw [if_pos q] at hr
      by_cases w : 0 < w_c sg b (l_en sg (n - b) b)
      · rw [if_pos w] at hr
        cases hl : pz_line sg b (l_en sg (n - b) b) (k + 1) z with
        | none => rw [hl] at hr; cases hr
        | some z2 =>
          rw [hl] at hr
          exact ih _ _ z2 z' (pz_line_ok hz hl) hr
      · rw [if_neg w] at hr
        exact ih _ _ z z' hz hr
    · rw [if_neg q] at hr
      by_cases w : 0 < zDp z
      · rw [if_pos w] at hr; cases hr
      · rw [if_neg w] at hr; cases hr; exact hz
section LQ
variable {l : Launch} {X : pm_X} {G : pm_G} {a sg0 sc pl an p0 tq rc ka va kv tl sl le ln n told c mo out mc ms kb nb : Nat} {wl i : Int32} {se : Int64} {sf lf : Nat → Int32} {tf : Nat → Option Nat} {D : Nat → tr_D} {ta sa sna : Nat → Nat} {z : pz} {kf : Nat → Nat} {vf : Nat → Int32} {td : Nat → Nat → Int32} {bg : Nat → Int32} {av at' : Nat → Nat} {ax : Nat → Int32} {I : Nat → Int32} {J : Nat → Int64} {M : Nat → Nat → Int32} {W : Nat → Nat → Int64} {A : Nat → Nat} {of : Nat → Int64} {Q : Option Value → pm_G → Prop}
theorem lp_pt {lv : Nat → Nat} (hp : lp_R sc p0 rc ln se sf lf D z td) (hlv : pz_n z lv) : pt_ok (zTn z) (zSn z) td (zBh z) lv (zFi z) (zBe z) (zAl z) := fun i hi => by
  obtain ⟨u1, u2, u3, u4, u5, u6, u7⟩ := pz_pt hp.1.1 hlv i hi
  obtain ⟨w1, w2, w3, -⟩ := hp.2.2.2.2.2.2.2.2.2.1 i hi
  exact ⟨w1.trans u1, w2.trans u2, u3, u4, u5, w3.trans u6, u7⟩
set_option maxHeartbeats 1000000 in
theorem lw_run (hc : lc_R X G a sg0 sc pl an p0 tq rc ka va kv tl sl le ln n told wl se sf lf tf D ta sa sna z kf vf td bg) (hp : lp_R sc p0 rc ln se sf lf D z td) (hmo : mo_at G mo A I J M W G) (hm : lm_R c sc p0 rc n told wl se sf D z kf vf td bg av at' ax I J M W) (ho : G out = some (190, .inl (1, 1, .inr (.inl of)))) (hk : kb + 4 * sc + 20 ≤ mc) (hn : nb + 1829 * sc + 7500 ≤ ms)  (kk : lw_K l X a mo out A i mc ms Q kb nb sc) : ev_W l X m_Law_law 40 mc ms Q kb nb 309 (lw_ls X a mo out i) [] G := by
  obtain ⟨c1, c2, c3, c4, c5, c6, c7, c8, c9, c10, c11, c12⟩ := id hc
  obtain ⟨p1, p2, p3, p4, p5, p6, p7, p8, p9, p10, p11, p12⟩ := id hp
  obtain ⟨m1, m2, m3, m4, m5, m6, m7, m8, m9, m10, m11, m12, m13, m14, m15, m16⟩ := id hm
  have t12 := hp.t12
  obtain ⟨lv, hlv⟩ := p1.2
  have s43 : ∃ d, d < 2 ^ 32 ∧ J 43 = lN d := by rw [m8]; exact p6
  refine ev_aload_n d_Law_law_309 rfl rfl ?_
  refine ev_callV0 d_Law_law_310 ck_TT_run ml_Law_44 im_TT_run se_TT_run rfl (by first | assumption | exact pm_up_eq | (refine pm_up_ne (by first | assumption | (apply Ne.symm; assumption) | exact pm_neK (G := G) (by assumption) (by assumption) (by omega) | exact pm_neOA (G := G) (by assumption) (by assumption) | exact (pm_neOA (G := G) (by assumption) (by assumption)).symm | exact pm_neN (G := G) (by assumption) (by assumption) | exact (pm_neN (G := G) (by assumption) (by assumption)).symm) ?_; first | assumption | exact pm_up_eq | (refine pm_up_ne (by first | assumption | (apply Ne.symm; assumption) | exact pm_neK (G := G) (by assumption) (by assumption) (by omega) | exact pm_neOA (G := G) (by assumption) (by assumption) | exact (pm_neOA (G := G) (by assumption) (by assumption)).symm | exact pm_neN (G := G) (by assumption) (by assumption) | exact (pm_neN (G := G) (by assumption) (by assumption)).symm) ?_; first | assumption | exact pm_up_eq | (refine pm_up_ne (by first | assumption | (apply Ne.symm; assumption) | exact pm_neK (G := G) (by assumption) (by assumption) (by omega) | exact pm_neOA (G := G) (by assumption) (by assumption) | exact (pm_neOA (G := G) (by assumption) (by assumption)).symm | exact pm_neN (G := G) (by assumption) (by assumption) | exact (pm_neN (G := G) (by assumption) (by assumption)).symm) ?_; first | assumption | exact pm_up_eq | (refine pm_up_ne (by first | assumption | (apply Ne.symm; assumption) | exact pm_neK (G := G) (by assumption) (by assumption) (by omega) | exact pm_neOA (G := G) (by assumption) (by assumption) | exact (pm_neOA (G := G) (by assumption) (by assumption)).symm | exact pm_neN (G := G) (by assumption) (by assumption) | exact (pm_neN (G := G) (by assumption) (by assumption)).symm) ?_; first | assumption | exact pm_up_eq | (refine pm_up_ne (by first | assumption | (apply Ne.symm; assumption) | exact pm_neK (G := G) (by assumption) (by assumption) (by omega) | exact pm_neOA (G := G) (by assumption) (by assumption) | exact (pm_neOA (G := G) (by assumption) (by assumption)).symm | exact pm_neN (G := G) (by assumption) (by assumption) | exact (pm_neN (G := G) (by assumption) (by assumption)).symm) ?_; first | assumption | exact pm_up_eq)))))) (c_TT_run c1 c3 c4 c6 c7 c8 t12 c9 c10 c5 c11 (pz_ps p1.1 hlv) (lp_pt hp hlv)) (by omega) (Nat.le_of_ble_eq_true rfl) (by omega) (by omega) ?_
  rintro r1 G1 (⟨u1, rfl, rfl⟩ | ⟨u1, u2, rfl, rfl⟩ | ⟨u1, u2, y, L, T, V, U, q, hq, rfl, f1, g1, g3, g4, g8, g10⟩)
  · refine ev_aload_n d_Law_law_313 rfl rfl ?_
    refine ev_callV0 d_Law_law_314 ck_Mo_run ml_Law_47 im_Mo_run se_Mo_run rfl hmo.1 (c_Mo_run (q := (se, (fun _ => 0), 0, -1, ((fun _ => 0), (fun _ => 0), (fun _ => 0)), bg, 0, (fun _ => 0), td, 0)) (q0 := (se, (fun _ => 0), 0, -1, ((fun _ => 0), (fun _ => 0), (fun _ => 0)), bg, 0, (fun _ => 0), td, 0)) p1 hlv p9 m7 m5 m10 m11 m12 s43 m13 m9 m14 ⟨m8.symm, rfl, rfl, rfl, rfl⟩ (fun z => absurd u1 z) hmo) (by omega) (Nat.le_of_ble_eq_true rfl) (by omega) (by omega) ?_
    rintro r2 G2 (⟨w1, rfl, g2⟩ | ⟨w1, -⟩ | ⟨w1, -⟩)
    · exact ev_icmp_eq 668 d_Law_law_317 (by decide) (fun _ => kk _ _ _ _ (lw_q hc hp hm ho g2) (by omega) (by omega)) (fun z => absurd rfl z)
    all_goals exact absurd u1 w1
  · refine ev_aload_n d_Law_law_313 rfl rfl ?_
    refine ev_callV0 d_Law_law_314 ck_Mo_run ml_Law_47 im_Mo_run se_Mo_run rfl hmo.1 (c_Mo_run (q := (se, (fun _ => 0), 0, -1, ((fun _ => 0), (fun _ => 0), (fun _ => 0)), bg, 0, (fun _ => 0), td, 0)) (q0 := (se, (fun _ => 0), 0, -1, ((fun _ => 0), (fun _ => 0), (fun _ => 0)), bg, 0, (fun _ => 0), td, 0)) p1 hlv p9 m7 m5 m10 m11 m12 s43 m13 m9 m14 ⟨m8.symm, rfl, rfl, rfl, rfl⟩ (fun _ z => absurd u2 (Nat.ne_of_lt z)) hmo) (by omega) (Nat.le_of_ble_eq_true rfl) (by omega) (by omega) ?_
    rintro r2 G2 (⟨w1, -⟩ | ⟨w1, w2, rfl, g2⟩ | ⟨w1, w2, -⟩)
    · exact absurd w1 u1
    · exact ev_icmp_eq 668 d_Law_law_317 (by decide) (fun _ => kk _ _ _ _ (lw_q hc hp hm ho g2) (by omega) (by omega)) (fun z => absurd rfl z)
    · omega
  · have hmo := hmo.cl f1 (fun c h => by unfold mo_C at h; unfold rn_C; omega)
    refine ev_aload_n d_Law_law_313 rfl rfl ?_
    refine ev_callV0 d_Law_law_314 ck_Mo_run ml_Law_47 im_Mo_run se_Mo_run rfl hmo.1 (c_Mo_run (q := q) (q0 := (se, (fun _ => 0), 0, -1, (L, T, V), bg, 0, U, td, 0)) p1 hlv p9 m7 m5 m10 m11 m12 s43 m13 m9 m14 ⟨m8.symm, rfl, rfl, rfl, rfl⟩ (fun _ _ => hq) hmo) (by omega) (Nat.le_of_ble_eq_true rfl) (by omega) (by omega) ?_
    rintro r2 G2 (⟨w1, -⟩ | ⟨w1, w2, -⟩ | ⟨-, -, rfl, I', J', M', W', g2, ft, mr, ⟨rq1, rq2, rq3, rq4⟩⟩)
    · exact absurd w1 u1
    · omega
    · obtain ⟨s1, s2, s3, s4, s5, s6, s7, s8, s9, s10, s11⟩ := mr
      obtain ⟨fI, fJ, fM, fM5, fM6, fW, fW7⟩ := id ft
      have sk := rr_td _ _ hq
      have hne : ∀ c, (c = 2 ∨ (10 ≤ c ∧ c ≤ 26) ∨ c = 190 ∨ (201 ≤ c ∧ c % 2 = 1)) → ¬ rn_C rc c := fun c h => by unfold rn_C; omega
      have hc1 : lc_R X G1 a sg0 sc pl an p0 tq (rc + 1) ka va kv tl sl le ln n told wl se sf lf (va_up tf rc (some y)) (va_up D rc (yN q, yu q, yL q, (yR q).1, (yR q).2.1, (yR q).2.2, yU q)) ta sa sna z kf vf (yT q) (yG q) := by
        refine ⟨g1, f1 _ _ _ c2 (hne _ (by omega)), g3, ⟨by omega, fun j hj => ?_, fun j y' hj hy => ?_⟩, c5.keep f1 (hne _ (by omega)) (hne _ (by omega)) (hne _ (by omega)), f1 _ _ _ c6 (hne _ (by omega)), c7.fr f1 (hne _ (by omega)) (hne _ (by omega)), g8, c9.fr f1 (hne _ (by omega)) (hne _ (by omega)), g10, fun i hi => f1 _ _ _ (c11 i hi) (hne _ (by omega)), f1 _ _ _ c12 (hne _ (by omega))⟩
        · by_cases e : j = rc
          · rw [e, va_up_s]; exact ⟨_, rfl⟩
          · rw [va_up_n e]; exact c4.2.1 j (by omega)
        · by_cases e : j = rc
          · subst e
            rw [va_up_s] at hy ⊢
            cases hy
            exact g4
          · rw [va_up_n e] at hy ⊢
            exact (c4.2.2 j y' hj hy).fr f1 (fun c c1 c2 => by unfold rn_C; omega)
      have hp1 : lp_R sc p0 (rc + 1) ln se sf lf (va_up D rc (yN q, yu q, yL q, (yR q).1, (yR q).2.1, (yR q).2.2, yU q)) z (yT q) := by
        refine ⟨p1, p2, p3, p4, p5, p6, p7, p8, by omega, fun j hj => ?_, p11, fun j hj => ?_⟩
        · obtain ⟨x1, x2, x3, x4⟩ := p10 j hj
          exact ⟨(sk j 1 (by omega)).trans x1, (sk j 2 (by omega)).trans x2, (sk j 3 (by omega)).trans x3, (sk j 4 (by omega)).trans x4⟩
        · by_cases e : j = rc
          · rw [e, va_up_s]; exact ⟨rq1, by show yu q ≤ 100; omega, rq3⟩
          · rw [va_up_n e]; exact p12 j (by omega)
      have eI : ∀ k, k ≠ 49 → k ≠ 51 → k ≠ 54 → k ≠ 55 → k ≠ 0 → k ≠ 44 → I' k = I k := fun k a1 a2 a3 a4 a5 a6 => (fI k a1 a2 a3 a4).trans ((va_up_n a6).trans (va_up_n a5))
      have eM : ∀ k, k < 19 ∨ k = 39 ∨ k = 42 → M' k = M k := fun k h => fM k (by omega) (by omega) (by omega) (by omega) (by omega) (by omega) (by omega) (by omega) (by omega) (by omega)
      have hm1 : lm_R c sc p0 (rc + 1) n told wl se sf (va_up D rc (yN q, yu q, yL q, (yR q).1, (yR q).2.1, (yR q).2.2, yU q)) z kf vf (yT q) (yG q) av at' ax I' J' M' W' := by
        refine ⟨(eI 1 (by decide) (by decide) (by decide) (by decide) (by decide) (by decide)).trans m1, fun k hk => ?_, (eI 10 (by decide) (by decide) (by decide) (by decide) (by decide) (by decide)).trans m3, (eI 11 (by decide) (by decide) (by decide) (by decide) (by decide) (by decide)).trans m4, (eI 14 (by decide) (by decide) (by decide) (by decide) (by decide) (by decide)).trans m5, (eI 23 (by decide) (by decide) (by decide) (by decide) (by decide) (by decide)).trans m6, s1, (fJ 43 (by decide) (by decide)).trans m8, s9, m10.ft ft, ⟨(eI 38 (by decide) (by decide) (by decide) (by decide) (by decide) (by decide)).trans m11.1, fun b hb => ?_⟩, m12, s6, s11, fun j hj => ?_, fun _ => ?_⟩
        · rw [eM 2 (by omega)]; exact m2 k hk
        · rw [eM 39 (by omega), fW 41 (by decide) (by decide) (by decide) (by decide) (by decide), fW 40 (by decide) (by decide) (by decide) (by decide) (by decide)]
          exact m11.2 b hb
        · by_cases e : j = rc
          · subst e
            rw [va_up_s]
            exact ⟨rq1, s3, s5⟩
          · rw [va_up_n e]
            obtain ⟨x1, x2, x3⟩ := m15 j (by omega)
            refine ⟨x1, by rw [fM5 j e]; exact x2, fun k hk => ?_⟩
            have lt : 2000 * j + k < 2000 * rc := by omega
            rw [fM6 _ lt, (fW7 _ lt).1, (fW7 _ lt).2]
            exact x3 k hk
        · rw [show va_up D rc (yN q, yu q, yL q, (yR q).1, (yR q).2.1, (yR q).2.2, yU q) (rc + 1 - 1) = (yN q, yu q, yL q, (yR q).1, (yR q).2.1, (yR q).2.2, yU q) from va_up_s]
          exact ⟨s10, s7, s8, s4⟩
      exact ev_icmp_eq 668 d_Law_law_317 (by decide) (fun _ => kk _ _ _ _ (lw_n hc1 hp1 hm1 (f1 _ _ _ ho (hne _ (by omega))) g2) (by omega) (by omega)) (fun z => absurd rfl z)
theorem mp_pl {sg : Nat → Nat} {N : Nat} (h : mp_ok sg N c z I M W) (hz : pz_ok z) (hc : c ≤ 2000) (hd : zDp z = 0) (h17 : M 17 (zTn z + 1) = nI (zSn z)) : mpl_ok z c M W := by
  obtain ⟨h1, h2, h3, h4, h5, h6, h7, h8, h9, h10, h11, h12⟩ := h
  refine ⟨hc, fun i hi => ?_, fun i hi hb => ?_, fun i hi => ⟨(h8 i hi).1, (h8 i hi).2.1⟩, fun _ => h17⟩
  · exact h12 i hi
  · rcases h10 i hi hb with ⟨j, hj, -⟩ | h
    · omega
    · exact h
theorem upd_8 {z : pz} (hz : pz_ok z) {j : Nat} (hj : j < zSn z) : upd (zSD z j) 8 0 = zSD z j := by
  obtain ⟨lv, hn⟩ := hz.2
  have h8 : zSd z j 8 = 0 := (hn.1 j hj).2.2.2.2.2.2.2.2
  funext k
  unfold upd
  split
  · next e => rw [e]; exact h8.symm
  · rfl
theorem fb_0 : ∀ f, f < 9 → (0 : Int32) = fb (nI 0) f := by decide
set_option maxHeartbeats 1000000 in
theorem lw_read (htr : l.stackTraces = false) (hc : lc_R X G a sg0 sc pl an p0 tq rc ka va kv tl sl le ln n told wl se sf lf tf D ta sa sna z kf vf td bg) (hp : lp_R sc p0 rc ln se sf lf D z td) (hmo : mo_at G mo A I J M W G) (hm : lm_R c sc p0 rc n told wl se sf D z kf vf td bg av at' ax I J M W) (ho : G out = some (190, .inl (1, 1, .inr (.inl of)))) (hk : kb + 4 * sc + 20 ≤ mc) (hn : nb + 1829 * sc + 7500 ≤ ms)  (kk : lw_K l X a mo out A i mc ms Q kb nb sc) : ev_W l X m_Law_law 40 mc ms Q kb nb 139 (lw_ls X a mo out i) [] G := by
  obtain ⟨c1, c2, c3, c4, c5, c6, c7, c8, c9, c10, c11, c12⟩ := id hc
  obtain ⟨p1, p2, p3, p4, p5, p6, p7, p8, p9, p10, p11, p12⟩ := id hp
  obtain ⟨m1, m2, m3, m4, m5, m6, m7, m8, m9, m10, m11, m12, m13, m14, m15, m16⟩ := id hm
  have t12 := hp.t12
  obtain ⟨sg, hsg⟩ : ∃ sg : Nat → Nat, sg_ok sg sf sc := ⟨fun k => (sf k).toInt.toNat, fun k hk => by
    obtain ⟨b, b1, b2⟩ := p5 k hk
    have e : (sf k).toInt.toNat = b := by rw [b2, nI_toInt (by omega)]; omega
    show sf k = nI (sf k).toInt.toNat ∧ (sf k).toInt.toNat < 128
    rw [e]
    exact ⟨b2, b1⟩⟩
  -- behind both readings
  have E : ∀ (w : Nat) (o : Option pz) (v v6 i0 : Int32) (of' : Nat → Int64) (I' : Nat → Int32) (J' : Nat → Int64) (M' : Nat → Nat → Int32) (W' : Nat → Nat → Int64) (G1 G2 : pm_G) (k' m' : Nat), k' ≤ kb + 4 * sc + 16 → m' ≤ nb + 1829 * sc + 200 → pm_fr (fun c => c = 1 ∨ c = 10 ∨ rd_C c ∨ c = 190) G G1 → G1 out = some (190, .inl (1, 1, .inr (.inl of'))) → v = i0 → I' 0 = i0 → (v = 0 → of' 0 = v6.toInt64) →
      pz_ok (o.getD pz_0) → pz_m (o.getD pz_0) → zDp (o.getD pz_0) = 0 → (∃ pl kv tl sl le ln ta sa sna lf, G1 a = some (1, .inr (0, tt_V sg0 0 pl (nI w) an 0 se tq 0)) ∧ G1 an = some (10, .inr (2, [.ref ka, .ref va, .int 0, .int 0])) ∧ pa_at X G1 pl kv tl sl le ln ta sa sna lf (o.getD pz_0)) → mo_at G1 mo A I' J' M' W' G2 → I' 1 = 0 → I' 10 = nI w → I' 38 = 0 → I' 44 = 0 → J' 43 = se → (∀ j, j < 9 → M' 42 j = 0) → I' 11 = nI (zVn (o.getD pz_0)) → I' 14 = nI (zTn (o.getD pz_0)) → I' 23 = nI (zSn (o.getD pz_0)) → (∃ c, mpl_ok (o.getD pz_0) c M' W') → (∀ j, j < zSn (o.getD pz_0) → M' 33 j = 0) → (∀ j, j < zTn (o.getD pz_0) → M' 19 (j + 1) = 0) → ev_W l X m_Law_law 40 mc ms Q k' m' 152 [(0, .ref (lw_b X)), (1, .ref a), (2, .ref mo), (3, .ref out), (4, .int i), (5, .int v), (6, .int v6)] [] G2 := by
    intro w o v v6 i0 of' I' J' M' W' G1 G2 k' m' hk' hm' f1 o1 hv hi0 hv6 z1 z2 z3 hcl g2 i1 i10 i38 i44 j43 m42 i11 i14 i23 hpl m33 m19
    subst hv
    obtain ⟨pl', kv', tl', sl', le', ln', ta', sa', sna', lf', q1, q2, q3, q4, q5, q6, q7, q8, q9, q10⟩ := hcl
    obtain ⟨c', hpl⟩ := hpl
    generalize o.getD pz_0 = z' at *
    have hne : ∀ c, (c = 2 ∨ c = 3 ∨ c = 11 ∨ c = 12 ∨ (50 ≤ c ∧ c < 90)) → ¬ (c = 1 ∨ c = 10 ∨ rd_C c ∨ c = 190) := fun c h => by unfold rd_C; omega
    obtain ⟨n1, n2, n3, ⟨fk, n4, -⟩, ⟨fv, n5, -⟩, n6, n7⟩ := c5
    have hc1 : lc_R X G1 a sg0 0 pl' an 0 tq 0 ka va kv' tl' sl' le' ln' 0 0 (nI w) se sf lf' tf D ta' sa' sna' z' kf vf (zTD z') (fun _ => 0) :=
      ⟨q1, f1 _ _ _ c2 (hne _ (by omega)), f1 _ _ _ c3 (hne _ (by omega)), ⟨by omega, fun j hj => absurd hj (Nat.not_lt_zero _), (c4.fr f1 (fun c c1 c2 => hne _ (by omega))).2.2⟩, ⟨q2, by omega, by omega, ⟨fk, f1 _ _ _ n4 (hne _ (by omega)), fun j hj => absurd hj (Nat.not_lt_zero _)⟩, ⟨fv, f1 _ _ _ n5 (hne _ (by omega)), fun j hj => absurd hj (Nat.not_lt_zero _)⟩, fun j hj => absurd hj (Nat.not_lt_zero _), fun j k _ hj => absurd hj (Nat.not_lt_zero _)⟩, q3, q4, q5, q6, fun j hj => by show G1 (sa' j) = some (200 + 2 * j, Sum.inr (5, se_V (sna' j) (upd (zSD z' j) 8 0))); rw [upd_8 z1 hj]; exact q7 j hj, q8, q9⟩
    have hp1 : lp_R 0 0 0 ln' se sf lf' D z' (zTD z') := ⟨z1, z2, z3, by omega, fun j hj => absurd hj (Nat.not_lt_zero _), p6, by omega, by omega, by omega, fun j hj => ⟨rfl, rfl, rfl, rfl⟩, q10, fun j hj => absurd hj (Nat.not_lt_zero _)⟩
    have hm1 : lm_R c' 0 0 0 0 0 (nI w) se sf D z' kf vf (zTD z') (fun _ => 0) av at' ax I' J' M' W' := ⟨i1, fun j hj => absurd hj (Nat.not_lt_zero _), i10, i11, i14, i23, i44, j43, fun f _ h2 => (m42 f h2).trans (fb_0 f h2), hpl, ⟨i38, fun j hj => absurd hj (Nat.not_lt_zero _)⟩, ⟨by omega, fun j hj => absurd hj (Nat.not_lt_zero _), fun j k _ hj => absurd hj (Nat.not_lt_zero _), fun q x => ⟨fun ⟨j, hj, _⟩ => absurd hj (Nat.not_lt_zero _), fun ⟨j, hj, _⟩ => absurd hj (Nat.not_lt_zero _)⟩⟩, m33, m19, fun j hj => absurd hj (Nat.not_lt_zero _), fun h => absurd rfl h⟩
    have hR := lw_n hc1 hp1 hm1 o1 g2
    have o2 := g2.f0 _ _ _ o1 (by unfold mo_C; omega)
    have fin : ev_W l X m_Law_law 40 mc ms Q k' m' 180 [(0, .ref (lw_b X)), (1, .ref a), (2, .ref mo), (3, .ref out), (4, .int i), (5, .int v), (6, .int v6)] [] G2 := by
      refine ev_goto 668 d_Law_law_180 (by decide) ?_
      exact ev_keep [0, 1, 2, 3, 4] (kk _ _ _ _ hR (by omega) (by omega))
    refine ev_aload_n d_Law_law_152 rfl rfl ?_
    have hmo := g2.rs
    refine ev_callV0 d_Law_law_153 ck_Mo_thrown ml_Law_30 im_Mo_thrown se_Mo_thrown rfl hmo.1 (c_Mo_thrown g2 hi0) (by omega) (Nat.le_of_ble_eq_true rfl) (by omega) (by omega) ?_
    rintro _ _ ⟨rfl, rfl⟩
    refine ev_iload d_Law_law_156 rfl ?_
    refine ev_icmp_eq 163 d_Law_law_158 (by decide) (fun _ => ?_) (fun z => absurd rfl z)
    refine ev_iload d_Law_law_163 rfl ?_
    refine ev_if_ne 180 d_Law_law_165 (by decide) (fun _ => fin) (fun hv0 => ?_)
    have h01 : vp_in (0 : Int32) 1 := (vp_in_nI (by decide) (by decide) : vp_in (nI 0) 1)
    refine ev_aload_n d_Law_law_168 rfl rfl ?_
    refine ev_iconst (v := 0) d_Law_law_169 (by decide) ?_
    refine ev_lald d_Law_law_170 rfl (by first | assumption | exact pm_up_eq | (refine pm_up_ne (by first | assumption | (apply Ne.symm; assumption) | exact pm_neK (G := G) (by assumption) (by assumption) (by omega) | exact pm_neOA (G := G) (by assumption) (by assumption) | exact (pm_neOA (G := G) (by assumption) (by assumption)).symm | exact pm_neN (G := G) (by assumption) (by assumption) | exact (pm_neN (G := G) (by assumption) (by assumption)).symm) ?_; first | assumption | exact pm_up_eq | (refine pm_up_ne (by first | assumption | (apply Ne.symm; assumption) | exact pm_neK (G := G) (by assumption) (by assumption) (by omega) | exact pm_neOA (G := G) (by assumption) (by assumption) | exact (pm_neOA (G := G) (by assumption) (by assumption)).symm | exact pm_neN (G := G) (by assumption) (by assumption) | exact (pm_neN (G := G) (by assumption) (by assumption)).symm) ?_; first | assumption | exact pm_up_eq | (refine pm_up_ne (by first | assumption | (apply Ne.symm; assumption) | exact pm_neK (G := G) (by assumption) (by assumption) (by omega) | exact pm_neOA (G := G) (by assumption) (by assumption) | exact (pm_neOA (G := G) (by assumption) (by assumption)).symm | exact pm_neN (G := G) (by assumption) (by assumption) | exact (pm_neN (G := G) (by assumption) (by assumption)).symm) ?_; first | assumption | exact pm_up_eq | (refine pm_up_ne (by first | assumption | (apply Ne.symm; assumption) | exact pm_neK (G := G) (by assumption) (by assumption) (by omega) | exact pm_neOA (G := G) (by assumption) (by assumption) | exact (pm_neOA (G := G) (by assumption) (by assumption)).symm | exact pm_neN (G := G) (by assumption) (by assumption) | exact (pm_neN (G := G) (by assumption) (by assumption)).symm) ?_; first | assumption | exact pm_up_eq | (refine pm_up_ne (by first | assumption | (apply Ne.symm; assumption) | exact pm_neK (G := G) (by assumption) (by assumption) (by omega) | exact pm_neOA (G := G) (by assumption) (by assumption) | exact (pm_neOA (G := G) (by assumption) (by assumption)).symm | exact pm_neN (G := G) (by assumption) (by assumption) | exact (pm_neN (G := G) (by assumption) (by assumption)).symm) ?_; first | assumption | exact pm_up_eq)))))) (by first | assumption | exact vp_in_nI (by omega) (by omega)) ?_
    refine ev_iload d_Law_law_171 rfl ?_
    refine ev_i2l d_Law_law_173 ?_
    have ec : Int32.toNatClampNeg 0 = 0 := by decide
    rw [ec, hv6 hv0]
    refine ev_lcmp d_Law_law_174 ?_
    have e : lg_cmp v6.toInt64 v6.toInt64 = 0 := by unfold lg_cmp; simp
    rw [e]
    exact ev_if_eq 180 d_Law_law_175 (by decide) (fun _ => fin) (fun z => absurd rfl z)
  have hT : ∀ z, (pz_rd sg sc (sc + 1) 0 0 pz_0).2 = some z → zTn z ≤ 12 := fun z h => (pz_rd_ok _ _ _ _ _ pz_0_ok h).1.2.2.1
  refine ev_aload_n d_Law_law_139 rfl rfl ?_
  refine ev_aload_n d_Law_law_140 rfl rfl ?_
  refine ev_callSW (N := 2) (av := [.ref a, .ref out]) (st := []) d_Law_law_141 hw_486 hw_0 (by decide) (by decide) ml_Law_24 sm_Law_read (c_Law_read htr hT c1 c2 hsg p4 c5.1 ho) rfl (by decide) (by decide) (by omega) (by omega) ?_
  rintro r1 G1 ⟨f1, ⟨of', o1, hr⟩, hcl⟩
  have hmo := hmo.cl f1 (fun c h => by unfold mo_C at h; unfold rd_C; omega)
  have htx : ∀ k, k < sc → M 2 k = nI (sg k) ∧ sg k < 128 := fun k hk => ⟨(m2 k hk).trans (hsg k hk).1, (hsg k hk).2⟩
  have hmr := c_Mo_read (l := l) (X := X) htx p4 m1 hmo
  have hrm := pz_rd_m (sg := sg) (n := sc) (sc + 1) 0 0 pz_0
  cases hres : pz_rd sg sc (sc + 1) 0 0 pz_0 with
  | mk w o =>
  rw [hres] at hr hcl hmr hrm
  cases o with
  | none =>
    obtain ⟨-, rfl⟩ := hr
    refine ev_istore d_Law_law_144 (by decide) ?_
    refine ev_aload_n d_Law_law_146 rfl rfl ?_
    refine ev_callV0 d_Law_law_147 ck_Mo_read ml_Law_29 im_Mo_read se_Mo_read rfl hmo.1 (hmr) (by omega) (Nat.le_of_ble_eq_true rfl) (by omega) (by omega) ?_
    rintro _ G2 ⟨I', J', M', W', g2, i1, i10, -, i38, i44, jj, m42, rfl, -, i0, i11, i14, i23⟩
    refine ev_istore d_Law_law_150 (by decide) ?_
    exact E w none 1 0 1 of' I' J' M' W' G1 G2 _ _ (by omega) (by omega) f1 o1 rfl i0 (fun h => absurd h (by decide)) pz_0_ok pz_m_0 rfl hcl g2 i1 i10 i38 i44 ((jj 43 (by decide)).trans m8) m42 i11 i14 i23 ⟨0, by omega, fun j hj => absurd hj (Nat.not_lt_zero _), fun j hj => absurd hj (Nat.not_lt_zero _), fun j hj => absurd hj (Nat.not_lt_zero _), fun h => absurd h (Nat.not_lt_zero _)⟩ (fun j hj => absurd hj (Nat.not_lt_zero _)) (fun j hj => absurd hj (Nat.not_lt_zero _))
  | some z' =>
    obtain ⟨-, rfl, ho6⟩ := hr
    refine ev_istore d_Law_law_144 (by decide) ?_
    refine ev_aload_n d_Law_law_146 rfl rfl ?_
    refine ev_callV0 d_Law_law_147 ck_Mo_read ml_Law_29 im_Mo_read se_Mo_read rfl hmo.1 (hmr) (by omega) (Nat.le_of_ble_eq_true rfl) (by omega) (by omega) ?_
    rintro _ G2 ⟨I', J', M', W', g2, i1, i10, -, i38, i44, jj, m42, rfl, -, i0, z3, z1, h17, c', hc', hmp⟩
    have hmp' := hmp
    obtain ⟨b1, b2, b3, b4, b5, b6, b7, b8, b9, b10, b11, b12⟩ := hmp'
    refine ev_istore d_Law_law_150 (by decide) ?_
    exact E w (some z') 0 (nI (zSn z')) 0 of' I' J' M' W' G1 G2 _ _ (by omega) (by omega) f1 o1 rfl i0 (fun _ => ho6) z1 (hrm z' pz_0_ok pz_m_0 rfl) z3 hcl g2 i1 i10 i38 i44 ((jj 43 (by decide)).trans m8) m42 b1 b2 b3 ⟨c', mp_pl hmp z1 hc' z3 h17⟩ b11 (fun j hj => (b8 j hj).2.2)
end LQ
