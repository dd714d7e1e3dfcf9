/-! THE LAW: seed, plant, sign, answer -/
section LQ
variable {l : Launch} {X : pm_X} {G : pm_G} {a sg0 sc pl an p0 tq rc ka va kv tl sl le ln n told c mo out mc ms kb nb : Nat} {wl i : Int32} {se : Int64} {sf lf : Nat → Int32} {tf : Nat → Option Nat} {D : Nat → tr_D} {ta sa sna : Nat → Nat} {z : pz} {kf : Nat → Nat} {vf : Nat → Int32} {td : Nat → Nat → Int32} {bg : Nat → Int32} {av at' : Nat → Nat} {ax : Nat → Int32} {I : Nat → Int32} {J : Nat → Int64} {M : Nat → Nat → Int32} {W : Nat → Nat → Int64} {A : Nat → Nat} {of : Nat → Int64} {Q : Option Value → pm_G → Prop}
theorem lc_R.c12 {G' : pm_G} {sc' p0' : Nat} {se' : Int64} {sf' : Nat → Int32} (ht : zTn z ≤ 12) (h : lc_R X G a sg0 sc pl an p0 tq rc ka va kv tl sl le ln n told wl se sf lf tf D ta sa sna z kf vf td bg) (hf : pm_fr (fun c => c = 1 ∨ c = 2) G G') (h1' : G' a = some (1, .inr (0, tt_V sg0 sc' pl wl an (nI p0') se' tq rc))) (h2' : G' sg0 = some (2, .inl (2, 4000, .inl sf'))) : lc_R X G' a sg0 sc' pl an p0' tq rc ka va kv tl sl le ln n told wl se' sf' lf tf D ta sa sna z kf vf td bg := by
  obtain ⟨h1, h2, h3, h4, h5, h6, h7, h8, h9, h10, h11, h12⟩ := h
  exact ⟨h1', h2', hf _ _ _ h3 (by omega), h4.fr hf (fun c c1 c2 => by omega), h5.keep hf (by omega) (by omega) (by omega), hf _ _ _ h6 (by omega), h7.fr hf (by omega) (by omega), h8.fr hf (fun i hi => by omega), h9.fr hf (by omega) (by omega), h10.fr hf (fun i hi => by omega), fun i hi => hf _ _ _ (h11 i hi) (by omega), hf _ _ _ h12 (by omega)⟩
theorem lc_R.o190 {G' : pm_G} (ht : zTn z ≤ 12) (h : lc_R X G a sg0 sc pl an p0 tq rc ka va kv tl sl le ln n told wl se sf lf tf D ta sa sna z kf vf td bg) (hf : pm_fr (fun c => c = 190) G G') : lc_R X G' a sg0 sc pl an p0 tq rc ka va kv tl sl le ln n told wl se sf lf tf D ta sa sna z kf vf td bg := by
  obtain ⟨h1, h2, h3, h4, h5, h6, h7, h8, h9, h10, h11, h12⟩ := h
  exact ⟨hf _ _ _ h1 (by omega), hf _ _ _ h2 (by omega), hf _ _ _ h3 (by omega), h4.fr hf (fun c c1 c2 => by omega), h5.keep hf (by omega) (by omega) (by omega), hf _ _ _ h6 (by omega), h7.fr hf (by omega) (by omega), h8.fr hf (fun i hi => by omega), h9.fr hf (by omega) (by omega), h10.fr hf (fun i hi => by omega), fun i hi => hf _ _ _ (h11 i hi) (by omega), hf _ _ _ h12 (by omega)⟩
/-- the relation, put together again -/
theorem lw_n {G' : pm_G} (hc : lc_R X G a sg0 sc pl an p0 tq rc ka va kv tl sl le ln n told wl se sf lf tf D ta sa sna z kf vf td bg) (hp : lp_R sc p0 rc ln se sf lf D z td) (hm : lm_R c sc p0 rc n told wl se sf D z kf vf td bg av at' ax I J M W) (ho : G out = some (190, .inl (1, 1, .inr (.inl of)))) (h2 : mo_at G mo A I J M W G') : lw_R X a mo out sc A G' :=
  ⟨sg0, pl, an, p0, tq, rc, ka, va, kv, tl, sl, le, ln, n, told, wl, se, sf, lf, tf, D, ta, sa, sna, z, kf, vf, td, bg, c, av, at', ax, I, J, M, W, of, hc.mo hp.t12 h2.f0, hp, h2.rs, hm, h2.f0 _ _ _ ho (by unfold mo_C; omega)⟩
theorem sd_lN (x : Int64) : ∃ d, d < 2 ^ 32 ∧ x &&& 4294967295 = lN d := by
  refine ⟨(x &&& 4294967295).toBitVec.toNat, ?_, ?_⟩
  · have e : (x &&& 4294967295).toBitVec = x.toBitVec &&& 4294967295#64 := rfl
    rw [e, BitVec.toNat_and]
    exact Nat.and_lt_two_pow _ (by decide)
  · apply Int64.toBitVec.inj
    show _ = BitVec.ofNat 64 _
    rw [BitVec.ofNat_toNat, BitVec.setWidth_eq]
set_option maxHeartbeats 1000000 in
theorem lw_seed (hc : lc_R X G a sg0 sc pl an p0 tq rc ka va kv tl sl le ln n told wl se sf lf tf D ta sa sna z kf vf td bg) (hp : lp_R sc p0 rc ln se sf lf D z td) (hmo : mo_at G mo A I J M W G) (hm : lm_R c sc p0 rc n told wl se sf D z kf vf td bg av at' ax I J M W) (ho : G out = some (190, .inl (1, 1, .inr (.inl of)))) (hk : kb + 4 * sc + 20 ≤ mc) (hn : nb + 1829 * sc + 7500 ≤ ms) (h1 : vp_in (i + 1) (X.2.2.2.1 39)) (h2 : vp_in (i + 2) (X.2.2.2.1 39)) (kk : lw_K l X a mo out A i mc ms Q kb nb sc) : ev_W l X m_Law_law 40 mc ms Q kb nb 561 (lw_ls X a mo out i) [] G := by
  obtain ⟨c1, c2, c3, c4, c5, c6, c7, c8, c9, c10, c11, c12⟩ := id hc
  obtain ⟨p1, p2, p3, p4, p5, p6, p7, p8, p9, p10, p11, p12⟩ := id hp
  obtain ⟨m1, m2, m3, m4, m5, m6, m7, m8, m9, m10, m11, m12, m13, m14, m15, m16⟩ := id hm
  have t12 := hp.t12
  refine ev_aload_n d_Law_law_561 rfl rfl ?_
  refine ev_aload_n d_Law_law_562 rfl rfl ?_
  refine ev_iload d_Law_law_563 rfl ?_
  refine ev_iconst (v := 1) d_Law_law_565 (by decide) ?_
  refine ev_iadd d_Law_law_566 ?_
  refine ev_sld d_Law_law_567 (by with_reducible assumption) ?_
  refine ev_i2l d_Law_law_568 ?_
  refine ev_bipush (v := 32) d_Law_law_569 (by decide) ?_
  refine ev_lshl d_Law_law_571 ?_
  refine ev_aload_n d_Law_law_572 rfl rfl ?_
  refine ev_iload d_Law_law_573 rfl ?_
  refine ev_iconst (v := 2) d_Law_law_575 (by decide) ?_
  refine ev_iadd d_Law_law_576 ?_
  refine ev_sld d_Law_law_577 (by with_reducible assumption) ?_
  refine ev_i2l d_Law_law_578 ?_
  refine ev_ldc2 d_Law_law_579 hw_1320 ?_
  refine ev_land d_Law_law_582 ?_
  refine ev_lor d_Law_law_583 ?_
  generalize hx : (sX X (i + 1)).toInt64 <<< ((32 : Int32).toInt64 &&& 63) ||| (sX X (i + 2)).toInt64 &&& 4294967295 = x
  refine ev_callV1 d_Law_law_584 ck_TT_seed ml_Law_79 im_TT_seed se_TT_seed rfl (by first | assumption | exact pm_up_eq | (refine pm_up_ne (by first | assumption | (apply Ne.symm; assumption) | exact pm_neK (G := G) (by assumption) (by assumption) (by omega) | exact pm_neOA (G := G) (by assumption) (by assumption) | exact (pm_neOA (G := G) (by assumption) (by assumption)).symm | exact pm_neN (G := G) (by assumption) (by assumption) | exact (pm_neN (G := G) (by assumption) (by assumption)).symm) ?_; first | assumption | exact pm_up_eq | (refine pm_up_ne (by first | assumption | (apply Ne.symm; assumption) | exact pm_neK (G := G) (by assumption) (by assumption) (by omega) | exact pm_neOA (G := G) (by assumption) (by assumption) | exact (pm_neOA (G := G) (by assumption) (by assumption)).symm | exact pm_neN (G := G) (by assumption) (by assumption) | exact (pm_neN (G := G) (by assumption) (by assumption)).symm) ?_; first | assumption | exact pm_up_eq | (refine pm_up_ne (by first | assumption | (apply Ne.symm; assumption) | exact pm_neK (G := G) (by assumption) (by assumption) (by omega) | exact pm_neOA (G := G) (by assumption) (by assumption) | exact (pm_neOA (G := G) (by assumption) (by assumption)).symm | exact pm_neN (G := G) (by assumption) (by assumption) | exact (pm_neN (G := G) (by assumption) (by assumption)).symm) ?_; first | assumption | exact pm_up_eq | (refine pm_up_ne (by first | assumption | (apply Ne.symm; assumption) | exact pm_neK (G := G) (by assumption) (by assumption) (by omega) | exact pm_neOA (G := G) (by assumption) (by assumption) | exact (pm_neOA (G := G) (by assumption) (by assumption)).symm | exact pm_neN (G := G) (by assumption) (by assumption) | exact (pm_neN (G := G) (by assumption) (by assumption)).symm) ?_; first | assumption | exact pm_up_eq | (refine pm_up_ne (by first | assumption | (apply Ne.symm; assumption) | exact pm_neK (G := G) (by assumption) (by assumption) (by omega) | exact pm_neOA (G := G) (by assumption) (by assumption) | exact (pm_neOA (G := G) (by assumption) (by assumption)).symm | exact pm_neN (G := G) (by assumption) (by assumption) | exact (pm_neN (G := G) (by assumption) (by assumption)).symm) ?_; first | assumption | exact pm_up_eq)))))) (c_TT_seed c1) (by omega) (Nat.le_of_ble_eq_true rfl) (by omega) (by omega) ?_
  rintro _ _ ⟨rfl, rfl⟩
  have f1 : pm_fr (fun c => c = 1 ∨ c = 2) G (pm_up G a (1, .inr (0, tt_V sg0 sc pl wl an (nI p0) (x &&& 4294967295) tq rc))) := pm_fr.put c1 (Or.inl rfl)
  have hc1 := hc.c12 t12 f1 pm_up_eq (pm_up_ne (pm_neK c2 c1 (by decide)) c2)
  have hmo := hmo.cl f1 (fun c h => by unfold mo_C at h; omega)
  refine ev_aload_n d_Law_law_587 rfl rfl ?_
  refine ev_aload_n d_Law_law_588 rfl rfl ?_
  refine ev_iload d_Law_law_589 rfl ?_
  refine ev_iconst (v := 1) d_Law_law_591 (by decide) ?_
  refine ev_iadd d_Law_law_592 ?_
  refine ev_sld d_Law_law_593 (by with_reducible assumption) ?_
  refine ev_i2l d_Law_law_594 ?_
  refine ev_bipush (v := 32) d_Law_law_595 (by decide) ?_
  refine ev_lshl d_Law_law_597 ?_
  refine ev_aload_n d_Law_law_598 rfl rfl ?_
  refine ev_iload d_Law_law_599 rfl ?_
  refine ev_iconst (v := 2) d_Law_law_601 (by decide) ?_
  refine ev_iadd d_Law_law_602 ?_
  refine ev_sld d_Law_law_603 (by with_reducible assumption) ?_
  refine ev_i2l d_Law_law_604 ?_
  refine ev_ldc2 d_Law_law_605 hw_1320 ?_
  refine ev_land d_Law_law_608 ?_
  refine ev_lor d_Law_law_609 ?_
  rw [hx]
  refine ev_callV1 d_Law_law_610 ck_Mo_seed ml_Law_83 im_Mo_seed se_Mo_seed rfl hmo.1 (c_Mo_seed hmo) (by omega) (Nat.le_of_ble_eq_true rfl) (by omega) (by omega) ?_
  rintro _ G2 ⟨rfl, g2⟩
  have hp1 : lp_R sc p0 rc ln (x &&& 4294967295) sf lf D z td := ⟨p1, p2, p3, p4, p5, sd_lN x, p7, p8, p9, p10, p11, p12⟩
  have hm1 : lm_R c sc p0 rc n told wl (x &&& 4294967295) sf D z kf vf td bg av at' ax (va_up I 0 0) (va_up J 43 (x &&& 4294967295)) M W := ⟨m1, m2, m3, m4, m5, m6, m7, rfl, m9, m10, m11, m12, m13, m14, m15, m16⟩
  exact ev_icmp_eq 668 d_Law_law_613 (by decide) (fun _ => kk _ _ _ _ (lw_n hc1 hp1 hm1 (f1 _ _ _ ho (by omega)) g2) (by omega) (by omega)) (fun z => absurd rfl z)
/-- the mask behind plant -/
def pl_2 (y f p : Int32) : Int32 := if y = 0 then p &&& ((1 : Int32) <<< (f &&& 31) ^^^ (-1)) else p ||| (1 : Int32) <<< (f &&& 31)
theorem pl_bc : ∀ h, h < 256 → bc_I (nI (2 * h)) = nI (fbn (nI (2 * h)) 8) := by decide +kernel
theorem pl_20 : ∀ j, j < 8 → ∀ h, h < 256 → pl_2 0 (nI (j + 1)) (nI (2 * h)) = nI (2 * ((pl_2 0 (nI (j + 1)) (nI (2 * h))).toBitVec.toNat / 2)) ∧ (pl_2 0 (nI (j + 1)) (nI (2 * h))).toBitVec.toNat / 2 < 256 := by decide +kernel
theorem pl_21 : ∀ j, j < 8 → ∀ h, h < 256 → pl_2 1 (nI (j + 1)) (nI (2 * h)) = nI (2 * ((pl_2 1 (nI (j + 1)) (nI (2 * h))).toBitVec.toNat / 2)) ∧ (pl_2 1 (nI (j + 1)) (nI (2 * h))).toBitVec.toNat / 2 < 256 := by decide +kernel
theorem pl_ok {y f : Int32} (hy : y = 0 ∨ y = 1) (hf : ¬ (f < 1 ∨ 8 < f)) (h1 : p0 < 512) (h2 : p0 % 2 = 0) : ∃ q, q < 512 ∧ q % 2 = 0 ∧ pl_2 y f (nI p0) = nI q ∧ bc_I (nI q) = nI (fbn (nI q) 8) := by
  obtain ⟨j, j1, j2⟩ : ∃ j, j < 8 ∧ f = nI (j + 1) := by
    have a1 : ¬ f < 1 := fun h => hf (Or.inl h)
    have a2 : ¬ 8 < f := fun h => hf (Or.inr h)
    rw [Int32.lt_iff_toInt_lt] at a1 a2
    have e1 : (1 : Int32).toInt = 1 := by decide
    have e8 : (8 : Int32).toInt = 8 := by decide
    refine ⟨f.toInt.toNat - 1, by omega, ?_⟩
    apply Int32.toInt_inj.mp
    have e : f.toInt.toNat - 1 + 1 = f.toInt.toNat := by omega
    rw [e, nI_toInt (by omega)]
    omega
  obtain ⟨h, rfl⟩ : ∃ h, p0 = 2 * h := ⟨p0 / 2, by omega⟩
  subst j2
  rcases hy with rfl | rfl
  · obtain ⟨u1, u2⟩ := pl_20 j j1 h (by omega)
    exact ⟨_, by omega, by omega, u1, pl_bc _ u2⟩
  · obtain ⟨u1, u2⟩ := pl_21 j j1 h (by omega)
    exact ⟨_, by omega, by omega, u1, pl_bc _ u2⟩
theorem y_zn {y : Int32} (hy : y = 0 ∨ y = 1) : vp_nar .boolean y = y := by
  rcases hy with rfl | rfl <;> rfl
set_option maxHeartbeats 1000000 in
theorem lw_plant (hc : lc_R X G a sg0 sc pl an p0 tq rc ka va kv tl sl le ln n told wl se sf lf tf D ta sa sna z kf vf td bg) (hp : lp_R sc p0 rc ln se sf lf D z td) (hmo : mo_at G mo A I J M W G) (hm : lm_R c sc p0 rc n told wl se sf D z kf vf td bg av at' ax I J M W) (ho : G out = some (190, .inl (1, 1, .inr (.inl of)))) (hk : kb + 4 * sc + 20 ≤ mc) (hn : nb + 1829 * sc + 7500 ≤ ms) (h1 : vp_in (i + 1) (X.2.2.2.1 39)) (h2 : vp_in (i + 2) (X.2.2.2.1 39)) (kk : lw_K l X a mo out A i mc ms Q kb nb sc) : ev_W l X m_Law_law 40 mc ms Q kb nb 384 (lw_ls X a mo out i) [] G := by
  obtain ⟨c1, c2, c3, c4, c5, c6, c7, c8, c9, c10, c11, c12⟩ := id hc
  obtain ⟨p1, p2, p3, p4, p5, p6, p7, p8, p9, p10, p11, p12⟩ := id hp
  obtain ⟨m1, m2, m3, m4, m5, m6, m7, m8, m9, m10, m11, m12, m13, m14, m15, m16⟩ := id hm
  have t12 := hp.t12
  have E : ∀ (y v : Int32) (G1 : pm_G), (y = 0 ∨ y = 1) → (((sX X (i + 1) < 1 ∨ 8 < sX X (i + 1)) ∧ v = -1 ∧ G1 = G) ∨ (¬ (sX X (i + 1) < 1 ∨ 8 < sX X (i + 1)) ∧ v = bc_I (pl_2 y (sX X (i + 1)) (nI p0)) ∧ G1 = pm_up G a (1, .inr (0, tt_V sg0 sc pl wl an (pl_2 y (sX X (i + 1)) (nI p0)) se tq rc)))) → ev_W l X m_Law_law 40 mc ms Q kb nb 429 (lw_ls X a mo out i) [.int y, .int (sX X (i + 1)), .ref mo, .int v] G1 := by
    intro y v G1 hy h
    rcases h with ⟨u1, rfl, rfl⟩ | ⟨u1, rfl, rfl⟩
    · refine ev_callV2 d_Law_law_429 ck_Mo_plant ml_Law_62 im_Mo_plant se_Mo_plant rfl hmo.1 (c_Mo_plant hmo m9 (y_zn hy) hy) (by omega) (Nat.le_of_ble_eq_true rfl) (by omega) (by omega) ?_
      rintro _ G2 (⟨-, rfl, g2⟩ | ⟨w1, -⟩)
      · exact ev_icmp_eq 668 d_Law_law_432 (by decide) (fun _ => kk _ _ _ _ (lw_q hc hp hm ho g2) (by omega) (by omega)) (fun z => absurd rfl z)
      · exact absurd u1 w1
    · obtain ⟨q, q1, q2, q3, q4⟩ := pl_ok hy u1 p7 p8
      rw [q3]
      have f1 : pm_fr (fun c => c = 1 ∨ c = 2) G (pm_up G a (1, .inr (0, tt_V sg0 sc pl wl an (nI q) se tq rc))) := pm_fr.put c1 (Or.inl rfl)
      have hc1 := hc.c12 t12 f1 pm_up_eq (pm_up_ne (pm_neK c2 c1 (by decide)) c2)
      have hmo := hmo.cl f1 (fun c h => by unfold mo_C at h; omega)
      refine ev_callV2 d_Law_law_429 ck_Mo_plant ml_Law_62 im_Mo_plant se_Mo_plant rfl hmo.1 (c_Mo_plant hmo m9 (y_zn hy) hy) (by omega) (Nat.le_of_ble_eq_true rfl) (by omega) (by omega) ?_
      rintro _ G2 (⟨w1, -⟩ | ⟨-, p2', e2, rfl, g, g2, g3⟩)
      · exact absurd w1 u1
      · have e3 : p2' = nI q := e2.trans q3
        subst e3
        have hp1 : lp_R sc q rc ln se sf lf D z td := ⟨p1, p2, p3, p4, p5, p6, q1, q2, p9, p10, p11, p12⟩
        have hm1 : lm_R c sc q rc n told wl se sf D z kf vf td bg av at' ax (va_up I 0 0) J (va_up M 42 g) W := ⟨m1, m2, m3, m4, m5, m6, m7, m8, fun f h1 h2 => g3 f h1 h2, m10, m11, m12, m13, m14, m15, m16⟩
        exact ev_icmp_eq 668 d_Law_law_432 (by decide) (fun _ => kk _ _ _ _ (lw_n hc1 hp1 hm1 (f1 _ _ _ ho (by omega)) g2) (by omega) (by omega)) (fun z => absurd q4 z)
  refine ev_aload_n d_Law_law_384 rfl rfl ?_
  refine ev_aload_n d_Law_law_385 rfl rfl ?_
  refine ev_iload d_Law_law_386 rfl ?_
  refine ev_iconst (v := 1) d_Law_law_388 (by decide) ?_
  refine ev_iadd d_Law_law_389 ?_
  refine ev_sld d_Law_law_390 (by with_reducible assumption) ?_
  refine ev_aload_n d_Law_law_391 rfl rfl ?_
  refine ev_iload d_Law_law_392 rfl ?_
  refine ev_iconst (v := 2) d_Law_law_394 (by decide) ?_
  refine ev_iadd d_Law_law_395 ?_
  refine ev_sld d_Law_law_396 (by with_reducible assumption) ?_
  by_cases h0 : sX X (i + 2) = 0
  · refine ev_if_eq 404 d_Law_law_397 (by decide) (fun _ => ?_) (fun z => absurd h0 z)
    refine ev_iconst (v := 0) d_Law_law_404 (by decide) ?_
    refine ev_callV2 d_Law_law_405 ck_TT_plant ml_Law_58 im_TT_plant se_TT_plant rfl (by first | assumption | exact pm_up_eq | (refine pm_up_ne (by first | assumption | (apply Ne.symm; assumption) | exact pm_neK (G := G) (by assumption) (by assumption) (by omega) | exact pm_neOA (G := G) (by assumption) (by assumption) | exact (pm_neOA (G := G) (by assumption) (by assumption)).symm | exact pm_neN (G := G) (by assumption) (by assumption) | exact (pm_neN (G := G) (by assumption) (by assumption)).symm) ?_; first | assumption | exact pm_up_eq | (refine pm_up_ne (by first | assumption | (apply Ne.symm; assumption) | exact pm_neK (G := G) (by assumption) (by assumption) (by omega) | exact pm_neOA (G := G) (by assumption) (by assumption) | exact (pm_neOA (G := G) (by assumption) (by assumption)).symm | exact pm_neN (G := G) (by assumption) (by assumption) | exact (pm_neN (G := G) (by assumption) (by assumption)).symm) ?_; first | assumption | exact pm_up_eq | (refine pm_up_ne (by first | assumption | (apply Ne.symm; assumption) | exact pm_neK (G := G) (by assumption) (by assumption) (by omega) | exact pm_neOA (G := G) (by assumption) (by assumption) | exact (pm_neOA (G := G) (by assumption) (by assumption)).symm | exact pm_neN (G := G) (by assumption) (by assumption) | exact (pm_neN (G := G) (by assumption) (by assumption)).symm) ?_; first | assumption | exact pm_up_eq | (refine pm_up_ne (by first | assumption | (apply Ne.symm; assumption) | exact pm_neK (G := G) (by assumption) (by assumption) (by omega) | exact pm_neOA (G := G) (by assumption) (by assumption) | exact (pm_neOA (G := G) (by assumption) (by assumption)).symm | exact pm_neN (G := G) (by assumption) (by assumption) | exact (pm_neN (G := G) (by assumption) (by assumption)).symm) ?_; first | assumption | exact pm_up_eq | (refine pm_up_ne (by first | assumption | (apply Ne.symm; assumption) | exact pm_neK (G := G) (by assumption) (by assumption) (by omega) | exact pm_neOA (G := G) (by assumption) (by assumption) | exact (pm_neOA (G := G) (by assumption) (by assumption)).symm | exact pm_neN (G := G) (by assumption) (by assumption) | exact (pm_neN (G := G) (by assumption) (by assumption)).symm) ?_; first | assumption | exact pm_up_eq)))))) (c_TT_plant c1) (by omega) (Nat.le_of_ble_eq_true rfl) (by omega) (by omega) ?_
    rintro _ G1 q1
    have K : ∀ v, (((sX X (i + 1) < 1 ∨ 8 < sX X (i + 1)) ∧ v = -1 ∧ G1 = G) ∨ (¬ (sX X (i + 1) < 1 ∨ 8 < sX X (i + 1)) ∧ v = bc_I (pl_2 0 (sX X (i + 1)) (nI p0)) ∧ G1 = pm_up G a (1, .inr (0, tt_V sg0 sc pl wl an (pl_2 0 (sX X (i + 1)) (nI p0)) se tq rc)))) → ev_W l X m_Law_law 40 mc ms Q kb nb 408 (lw_ls X a mo out i) [.int v] G1 := by
      intro v hv
      refine ev_aload_n d_Law_law_408 rfl rfl ?_
      refine ev_aload_n d_Law_law_409 rfl rfl ?_
      refine ev_iload d_Law_law_410 rfl ?_
      refine ev_iconst (v := 1) d_Law_law_412 (by decide) ?_
      refine ev_iadd d_Law_law_413 ?_
      refine ev_sld d_Law_law_414 (by with_reducible assumption) ?_
      refine ev_aload_n d_Law_law_415 rfl rfl ?_
      refine ev_iload d_Law_law_416 rfl ?_
      refine ev_iconst (v := 2) d_Law_law_418 (by decide) ?_
      refine ev_iadd d_Law_law_419 ?_
      refine ev_sld d_Law_law_420 (by with_reducible assumption) ?_
      refine ev_if_eq 428 d_Law_law_421 (by decide) (fun _ => ?_) (fun z => absurd h0 z)
      refine ev_iconst (v := 0) d_Law_law_428 (by decide) ?_
      exact E 0 v G1 (Or.inl rfl) hv
    rcases q1 with ⟨u1, rfl, u2⟩ | ⟨u1, p2', rfl, rfl, u2⟩
    · exact K _ (Or.inl ⟨u1, rfl, u2⟩)
    · exact K _ (Or.inr ⟨u1, rfl, u2⟩)
  · refine ev_if_eq 404 d_Law_law_397 (by decide) (fun z => absurd z h0) (fun _ => ?_)
    refine ev_iconst (v := 1) d_Law_law_400 (by decide) ?_
    refine ev_goto 405 d_Law_law_401 (by decide) ?_
    refine ev_callV2 d_Law_law_405 ck_TT_plant ml_Law_58 im_TT_plant se_TT_plant rfl (by first | assumption | exact pm_up_eq | (refine pm_up_ne (by first | assumption | (apply Ne.symm; assumption) | exact pm_neK (G := G) (by assumption) (by assumption) (by omega) | exact pm_neOA (G := G) (by assumption) (by assumption) | exact (pm_neOA (G := G) (by assumption) (by assumption)).symm | exact pm_neN (G := G) (by assumption) (by assumption) | exact (pm_neN (G := G) (by assumption) (by assumption)).symm) ?_; first | assumption | exact pm_up_eq | (refine pm_up_ne (by first | assumption | (apply Ne.symm; assumption) | exact pm_neK (G := G) (by assumption) (by assumption) (by omega) | exact pm_neOA (G := G) (by assumption) (by assumption) | exact (pm_neOA (G := G) (by assumption) (by assumption)).symm | exact pm_neN (G := G) (by assumption) (by assumption) | exact (pm_neN (G := G) (by assumption) (by assumption)).symm) ?_; first | assumption | exact pm_up_eq | (refine pm_up_ne (by first | assumption | (apply Ne.symm; assumption) | exact pm_neK (G := G) (by assumption) (by assumption) (by omega) | exact pm_neOA (G := G) (by assumption) (by assumption) | exact (pm_neOA (G := G) (by assumption) (by assumption)).symm | exact pm_neN (G := G) (by assumption) (by assumption) | exact (pm_neN (G := G) (by assumption) (by assumption)).symm) ?_; first | assumption | exact pm_up_eq | (refine pm_up_ne (by first | assumption | (apply Ne.symm; assumption) | exact pm_neK (G := G) (by assumption) (by assumption) (by omega) | exact pm_neOA (G := G) (by assumption) (by assumption) | exact (pm_neOA (G := G) (by assumption) (by assumption)).symm | exact pm_neN (G := G) (by assumption) (by assumption) | exact (pm_neN (G := G) (by assumption) (by assumption)).symm) ?_; first | assumption | exact pm_up_eq | (refine pm_up_ne (by first | assumption | (apply Ne.symm; assumption) | exact pm_neK (G := G) (by assumption) (by assumption) (by omega) | exact pm_neOA (G := G) (by assumption) (by assumption) | exact (pm_neOA (G := G) (by assumption) (by assumption)).symm | exact pm_neN (G := G) (by assumption) (by assumption) | exact (pm_neN (G := G) (by assumption) (by assumption)).symm) ?_; first | assumption | exact pm_up_eq)))))) (c_TT_plant c1) (by omega) (Nat.le_of_ble_eq_true rfl) (by omega) (by omega) ?_
    rintro _ G1 q1
    have K : ∀ v, (((sX X (i + 1) < 1 ∨ 8 < sX X (i + 1)) ∧ v = -1 ∧ G1 = G) ∨ (¬ (sX X (i + 1) < 1 ∨ 8 < sX X (i + 1)) ∧ v = bc_I (pl_2 1 (sX X (i + 1)) (nI p0)) ∧ G1 = pm_up G a (1, .inr (0, tt_V sg0 sc pl wl an (pl_2 1 (sX X (i + 1)) (nI p0)) se tq rc)))) → ev_W l X m_Law_law 40 mc ms Q kb nb 408 (lw_ls X a mo out i) [.int v] G1 := by
      intro v hv
      refine ev_aload_n d_Law_law_408 rfl rfl ?_
      refine ev_aload_n d_Law_law_409 rfl rfl ?_
      refine ev_iload d_Law_law_410 rfl ?_
      refine ev_iconst (v := 1) d_Law_law_412 (by decide) ?_
      refine ev_iadd d_Law_law_413 ?_
      refine ev_sld d_Law_law_414 (by with_reducible assumption) ?_
      refine ev_aload_n d_Law_law_415 rfl rfl ?_
      refine ev_iload d_Law_law_416 rfl ?_
      refine ev_iconst (v := 2) d_Law_law_418 (by decide) ?_
      refine ev_iadd d_Law_law_419 ?_
      refine ev_sld d_Law_law_420 (by with_reducible assumption) ?_
      refine ev_if_eq 428 d_Law_law_421 (by decide) (fun z => absurd z h0) (fun _ => ?_)
      refine ev_iconst (v := 1) d_Law_law_424 (by decide) ?_
      refine ev_goto 429 d_Law_law_425 (by decide) ?_
      exact E 1 v G1 (Or.inr rfl) hv
    rcases q1 with ⟨u1, rfl, u2⟩ | ⟨u1, p2', rfl, rfl, u2⟩
    · exact K _ (Or.inl ⟨u1, rfl, u2⟩)
    · exact K _ (Or.inr ⟨u1, rfl, u2⟩)
/-- two texts that hold the same signs -/
def sg_R (s : Nat) (q1 q2 : Nat × (Nat → Int32)) : Prop := q1.1 = q2.1 ∧ q1.1 ≤ 4000 ∧ q1.1 ≤ s ∧ ∀ k, k < q1.1 → q2.2 k = q1.2 k ∧ ∃ b, b < 128 ∧ q1.2 k = nI b
theorem sg_R.add {s : Nat} {q1 q2 : Nat × (Nat → Int32)} (x : Int32) (h : sg_R s q1 q2) : sg_R (s + 1) (sg_add x q1) (sg_add x q2) := by
  obtain ⟨h1, h2, h3, h4⟩ := h
  rw [sg_m_is, sg_m_is]
  unfold sg_m
  rw [← h1]
  by_cases hx : x < 1 ∨ 127 < x ∨ 4000 ≤ q1.1
  · rw [if_pos hx, if_pos hx]
    exact ⟨h1, h2, by omega, h4⟩
  · rw [if_neg hx, if_neg hx]
    have a1 : ¬ x < 1 := fun h => hx (Or.inl h)
    have a2 : ¬ 127 < x := fun h => hx (Or.inr (Or.inl h))
    have a3 : ¬ 4000 ≤ q1.1 := fun h => hx (Or.inr (Or.inr h))
    refine ⟨rfl, by show q1.1 + 1 ≤ 4000; omega, by show q1.1 + 1 ≤ s + 1; omega, fun k hk => ?_⟩
    have hk : k < q1.1 + 1 := hk
    by_cases e : k = q1.1
    · refine ⟨by show upd q2.2 q1.1 x k = upd q1.2 q1.1 x k; rw [e]; simp [upd], x.toInt.toNat, ?_, ?_⟩
      · rw [Int32.lt_iff_toInt_lt] at a1 a2
        have e1 : (1 : Int32).toInt = 1 := by decide
        have e8 : (127 : Int32).toInt = 127 := by decide
        omega
      · show upd q1.2 q1.1 x k = _
        rw [e]
        simp only [upd, if_true]
        rw [Int32.lt_iff_toInt_lt] at a1 a2
        have e1 : (1 : Int32).toInt = 1 := by decide
        have e8 : (127 : Int32).toInt = 127 := by decide
        apply Int32.toInt_inj.mp
        rw [nI_toInt (by omega)]
        omega
    · have e1 : upd q1.2 q1.1 x k = q1.2 k := if_neg e
      have e2 : upd q2.2 q1.1 x k = q2.2 k := if_neg e
      obtain ⟨w1, w2⟩ := h4 k (by omega)
      exact ⟨by show upd q2.2 q1.1 x k = upd q1.2 q1.1 x k; rw [e1, e2, w1], by show ∃ b, b < 128 ∧ upd q1.2 q1.1 x k = nI b; rw [e1]; exact w2⟩
theorem sg_R.four {s : Nat} {q1 q2 : Nat × (Nat → Int32)} (c : Int32) (h : sg_R s q1 q2) : sg_R (s + 4) (sg_4 c q1) (sg_4 c q2) := ((((h.add _).add _).add _).add _)
set_option maxHeartbeats 1000000 in
theorem lw_sign (hc : lc_R X G a sg0 sc pl an p0 tq rc ka va kv tl sl le ln n told wl se sf lf tf D ta sa sna z kf vf td bg) (hp : lp_R sc p0 rc ln se sf lf D z td) (hmo : mo_at G mo A I J M W G) (hm : lm_R c sc p0 rc n told wl se sf D z kf vf td bg av at' ax I J M W) (ho : G out = some (190, .inl (1, 1, .inr (.inl of)))) (hk : kb + 4 * sc + 20 ≤ mc) (hn : nb + 1829 * sc + 7500 ≤ ms) (h1 : vp_in (i + 1) (X.2.2.2.1 39)) (kk : lw_K l X a mo out A i mc ms Q kb nb sc) : ev_W l X m_Law_law 40 mc ms Q kb nb 116 (lw_ls X a mo out i) [] G := by
  obtain ⟨c1, c2, c3, c4, c5, c6, c7, c8, c9, c10, c11, c12⟩ := id hc
  obtain ⟨p1, p2, p3, p4, p5, p6, p7, p8, p9, p10, p11, p12⟩ := id hp
  obtain ⟨m1, m2, m3, m4, m5, m6, m7, m8, m9, m10, m11, m12, m13, m14, m15, m16⟩ := id hm
  have t12 := hp.t12
  have hr : sg_R (sc + 4) (sg_4 (sX X (i + 1)) (sc, sf)) (sg_4 (sX X (i + 1)) (sc, M 2)) := sg_R.four _ ⟨rfl, p4, Nat.le_refl _, fun k hk => ⟨m2 k hk, p5 k hk⟩⟩
  obtain ⟨r1, r2, r3, r4⟩ := hr
  refine ev_aload_n d_Law_law_116 rfl rfl ?_
  refine ev_aload_n d_Law_law_117 rfl rfl ?_
  refine ev_iload d_Law_law_118 rfl ?_
  refine ev_iconst (v := 1) d_Law_law_120 (by decide) ?_
  refine ev_iadd d_Law_law_121 ?_
  refine ev_sld d_Law_law_122 (by with_reducible assumption) ?_
  refine ev_callV1 d_Law_law_123 ck_TT_sign ml_Law_19 im_TT_sign se_TT_sign rfl (by first | assumption | exact pm_up_eq | (refine pm_up_ne (by first | assumption | (apply Ne.symm; assumption) | exact pm_neK (G := G) (by assumption) (by assumption) (by omega) | exact pm_neOA (G := G) (by assumption) (by assumption) | exact (pm_neOA (G := G) (by assumption) (by assumption)).symm | exact pm_neN (G := G) (by assumption) (by assumption) | exact (pm_neN (G := G) (by assumption) (by assumption)).symm) ?_; first | assumption | exact pm_up_eq | (refine pm_up_ne (by first | assumption | (apply Ne.symm; assumption) | exact pm_neK (G := G) (by assumption) (by assumption) (by omega) | exact pm_neOA (G := G) (by assumption) (by assumption) | exact (pm_neOA (G := G) (by assumption) (by assumption)).symm | exact pm_neN (G := G) (by assumption) (by assumption) | exact (pm_neN (G := G) (by assumption) (by assumption)).symm) ?_; first | assumption | exact pm_up_eq | (refine pm_up_ne (by first | assumption | (apply Ne.symm; assumption) | exact pm_neK (G := G) (by assumption) (by assumption) (by omega) | exact pm_neOA (G := G) (by assumption) (by assumption) | exact (pm_neOA (G := G) (by assumption) (by assumption)).symm | exact pm_neN (G := G) (by assumption) (by assumption) | exact (pm_neN (G := G) (by assumption) (by assumption)).symm) ?_; first | assumption | exact pm_up_eq | (refine pm_up_ne (by first | assumption | (apply Ne.symm; assumption) | exact pm_neK (G := G) (by assumption) (by assumption) (by omega) | exact pm_neOA (G := G) (by assumption) (by assumption) | exact (pm_neOA (G := G) (by assumption) (by assumption)).symm | exact pm_neN (G := G) (by assumption) (by assumption) | exact (pm_neN (G := G) (by assumption) (by assumption)).symm) ?_; first | assumption | exact pm_up_eq | (refine pm_up_ne (by first | assumption | (apply Ne.symm; assumption) | exact pm_neK (G := G) (by assumption) (by assumption) (by omega) | exact pm_neOA (G := G) (by assumption) (by assumption) | exact (pm_neOA (G := G) (by assumption) (by assumption)).symm | exact pm_neN (G := G) (by assumption) (by assumption) | exact (pm_neN (G := G) (by assumption) (by assumption)).symm) ?_; first | assumption | exact pm_up_eq)))))) (c_TT_sign c1 c2 p4) (by omega) (Nat.le_of_ble_eq_true rfl) (by omega) (by omega) ?_
  rintro _ G1 ⟨rfl, f1, u1, u2⟩
  have hc1 := hc.c12 t12 f1 u1 u2
  have hmo := hmo.cl f1 (fun c h => by unfold mo_C at h; omega)
  refine ev_aload_n d_Law_law_126 rfl rfl ?_
  refine ev_aload_n d_Law_law_127 rfl rfl ?_
  refine ev_iload d_Law_law_128 rfl ?_
  refine ev_iconst (v := 1) d_Law_law_130 (by decide) ?_
  refine ev_iadd d_Law_law_131 ?_
  refine ev_sld d_Law_law_132 (by with_reducible assumption) ?_
  refine ev_callV1 d_Law_law_133 ck_Mo_sign ml_Law_23 im_Mo_sign se_Mo_sign rfl hmo.1 (c_Mo_sign hmo m1 p4) (by omega) (Nat.le_of_ble_eq_true rfl) (by omega) (by omega) ?_
  rintro _ G2 ⟨rfl, g2⟩
  have hp1 : lp_R (sg_4 (sX X (i + 1)) (sc, sf)).1 p0 rc ln se (sg_4 (sX X (i + 1)) (sc, sf)).2 lf D z td := ⟨p1, p2, p3, r2, fun k hk => (r4 k hk).2, p6, p7, p8, p9, p10, p11, p12⟩
  have hm1 : lm_R c (sg_4 (sX X (i + 1)) (sc, sf)).1 p0 rc n told wl se (sg_4 (sX X (i + 1)) (sc, sf)).2 D z kf vf td bg av at' ax (va_up (va_up I 0 0) 1 (nI (sg_4 (sX X (i + 1)) (sc, M 2)).1)) J (va_up M 2 (sg_4 (sX X (i + 1)) (sc, M 2)).2) W := ⟨by rw [r1]; rfl, fun k hk => (r4 k hk).1, m3, m4, m5, m6, m7, m8, m9, m10, m11, m12, m13, m14, m15, m16⟩
  refine ev_goto 668 d_Law_law_136 (by decide) ?_
  exact kk _ _ _ _ (lw_n hc1 hp1 hm1 (f1 _ _ _ ho (by omega)) g2) (by omega) (by omega)
theorem lc_R.c10 {G' : pm_G} {n' told' : Nat} {kf' : Nat → Nat} {vf' : Nat → Int32} (ht : zTn z ≤ 12) (h : lc_R X G a sg0 sc pl an p0 tq rc ka va kv tl sl le ln n told wl se sf lf tf D ta sa sna z kf vf td bg) (hf : pm_fr (fun c => 10 ≤ c ∧ c < 10 + 3) G G') (h5' : an_at 10 G' an ka va n' told' kf' vf') : lc_R X G' a sg0 sc pl an p0 tq rc ka va kv tl sl le ln n' told' wl se sf lf tf D ta sa sna z kf' vf' td bg := by
  obtain ⟨h1, h2, h3, h4, h5, h6, h7, h8, h9, h10, h11, h12⟩ := h
  exact ⟨hf _ _ _ h1 (by omega), hf _ _ _ h2 (by omega), hf _ _ _ h3 (by omega), h4.fr hf (fun c c1 c2 => by omega), h5', hf _ _ _ h6 (by omega), h7.fr hf (by omega) (by omega), h8.fr hf (fun i hi => by omega), h9.fr hf (by omega) (by omega), h10.fr hf (fun i hi => by omega), fun i hi => hf _ _ _ (h11 i hi) (by omega), hf _ _ _ h12 (by omega)⟩
theorem v_i32 {v : Int64} (h : ¬ (v < -999999 ∨ 999999 < v)) : v.toInt32.toInt64 = v ∧ v.toInt32 ≠ -1000000 := by
  have a1 : ¬ v < -999999 := fun z => h (Or.inl z)
  have a2 : ¬ 999999 < v := fun z => h (Or.inr z)
  rw [Int64.lt_iff_toInt_lt] at a1 a2
  have e1 : (-999999 : Int64).toInt = -999999 := by decide
  have e2 : (999999 : Int64).toInt = 999999 := by decide
  rw [e1] at a1
  rw [e2] at a2
  have e3 : v.toInt32.toInt = v.toInt := by
    rw [Int64.toInt_toInt32]
    rw [Int.bmod_eq_of_le (by omega) (by omega)]
  constructor
  · apply Int64.toInt_inj.mp
    rw [Int32.toInt_toInt64, e3]
  · intro hv
    rw [hv] at e3
    have e4 : (-1000000 : Int32).toInt = -1000000 := by decide
    rw [e4] at e3
    omega
set_option maxHeartbeats 1000000 in
theorem lw_answer (hc : lc_R X G a sg0 sc pl an p0 tq rc ka va kv tl sl le ln n told wl se sf lf tf D ta sa sna z kf vf td bg) (hp : lp_R sc p0 rc ln se sf lf D z td) (hmo : mo_at G mo A I J M W G) (hm : lm_R c sc p0 rc n told wl se sf D z kf vf td bg av at' ax I J M W) (ho : G out = some (190, .inl (1, 1, .inr (.inl of)))) (hk : kb + 4 * sc + 20 ≤ mc) (hn : nb + 1829 * sc + 7500 ≤ ms) (h1 : vp_in (i + 1) (X.2.2.2.1 39)) (h2 : vp_in (i + 2) (X.2.2.2.1 39)) (h3 : vp_in (i + 3) (X.2.2.2.1 39)) (h4 : vp_in (i + 4) (X.2.2.2.1 39)) (h5 : vp_in (i + 5) (X.2.2.2.1 39)) (kk : lw_K l X a mo out A i mc ms Q kb nb sc) : ev_W l X m_Law_law 40 mc ms Q kb nb 196 (lw_ls X a mo out i) [] G := by
  obtain ⟨c1, c2, c3, c4, c5, c6, c7, c8, c9, c10, c11, c12⟩ := id hc
  obtain ⟨p1, p2, p3, p4, p5, p6, p7, p8, p9, p10, p11, p12⟩ := id hp
  obtain ⟨m1, m2, m3, m4, m5, m6, m7, m8, m9, m10, m11, m12, m13, m14, m15, m16⟩ := id hm
  have t12 := hp.t12
  have v20 : zVn z ≤ 20 := p1.1.1
  refine ev_aload_n d_Law_law_196 rfl rfl ?_
  refine ev_aload_n d_Law_law_197 rfl rfl ?_
  refine ev_iload d_Law_law_198 rfl ?_
  refine ev_iconst (v := 1) d_Law_law_200 (by decide) ?_
  refine ev_iadd d_Law_law_201 ?_
  refine ev_sld d_Law_law_202 (by with_reducible assumption) ?_
  refine ev_aload_n d_Law_law_203 rfl rfl ?_
  refine ev_iload d_Law_law_204 rfl ?_
  refine ev_iconst (v := 2) d_Law_law_206 (by decide) ?_
  refine ev_iadd d_Law_law_207 ?_
  refine ev_sld d_Law_law_208 (by with_reducible assumption) ?_
  refine ev_i2l d_Law_law_209 ?_
  refine ev_bipush (v := 32) d_Law_law_210 (by decide) ?_
  refine ev_lshl d_Law_law_212 ?_
  refine ev_aload_n d_Law_law_213 rfl rfl ?_
  refine ev_iload d_Law_law_214 rfl ?_
  refine ev_iconst (v := 3) d_Law_law_216 (by decide) ?_
  refine ev_iadd d_Law_law_217 ?_
  refine ev_sld d_Law_law_218 (by with_reducible assumption) ?_
  refine ev_i2l d_Law_law_219 ?_
  refine ev_ldc2 d_Law_law_220 hw_1320 ?_
  refine ev_land d_Law_law_223 ?_
  refine ev_lor d_Law_law_224 ?_
  refine ev_aload_n d_Law_law_225 rfl rfl ?_
  refine ev_iload d_Law_law_226 rfl ?_
  refine ev_iconst (v := 4) d_Law_law_228 (by decide) ?_
  refine ev_iadd d_Law_law_229 ?_
  refine ev_sld d_Law_law_230 (by with_reducible assumption) ?_
  refine ev_i2l d_Law_law_231 ?_
  refine ev_bipush (v := 32) d_Law_law_232 (by decide) ?_
  refine ev_lshl d_Law_law_234 ?_
  refine ev_aload_n d_Law_law_235 rfl rfl ?_
  refine ev_iload d_Law_law_236 rfl ?_
  refine ev_iconst (v := 5) d_Law_law_238 (by decide) ?_
  refine ev_iadd d_Law_law_239 ?_
  refine ev_sld d_Law_law_240 (by with_reducible assumption) ?_
  refine ev_i2l d_Law_law_241 ?_
  refine ev_ldc2 d_Law_law_242 hw_1320 ?_
  refine ev_land d_Law_law_245 ?_
  refine ev_lor d_Law_law_246 ?_
  generalize hx : (sX X (i + 2)).toInt64 <<< ((32 : Int32).toInt64 &&& 63) ||| (sX X (i + 3)).toInt64 &&& 4294967295 = x
  generalize hy : (sX X (i + 4)).toInt64 <<< ((32 : Int32).toInt64 &&& 63) ||| (sX X (i + 5)).toInt64 &&& 4294967295 = y
  have t200 : told ≤ 200 := c5.2.2.1
  have E : ∀ (v : Int32) (G1 : pm_G), lc_R X G1 a sg0 sc pl an p0 tq rc ka va kv tl sl le ln n told wl se sf lf tf D ta sa sna z kf vf td bg → True := fun _ _ _ => trivial
  clear E
  refine ev_callV3 d_Law_law_247 ck_TT_answer ml_Law_39 im_TT_answer se_TT_answer rfl (by first | assumption | exact pm_up_eq | (refine pm_up_ne (by first | assumption | (apply Ne.symm; assumption) | exact pm_neK (G := G) (by assumption) (by assumption) (by omega) | exact pm_neOA (G := G) (by assumption) (by assumption) | exact (pm_neOA (G := G) (by assumption) (by assumption)).symm | exact pm_neN (G := G) (by assumption) (by assumption) | exact (pm_neN (G := G) (by assumption) (by assumption)).symm) ?_; first | assumption | exact pm_up_eq | (refine pm_up_ne (by first | assumption | (apply Ne.symm; assumption) | exact pm_neK (G := G) (by assumption) (by assumption) (by omega) | exact pm_neOA (G := G) (by assumption) (by assumption) | exact (pm_neOA (G := G) (by assumption) (by assumption)).symm | exact pm_neN (G := G) (by assumption) (by assumption) | exact (pm_neN (G := G) (by assumption) (by assumption)).symm) ?_; first | assumption | exact pm_up_eq | (refine pm_up_ne (by first | assumption | (apply Ne.symm; assumption) | exact pm_neK (G := G) (by assumption) (by assumption) (by omega) | exact pm_neOA (G := G) (by assumption) (by assumption) | exact (pm_neOA (G := G) (by assumption) (by assumption)).symm | exact pm_neN (G := G) (by assumption) (by assumption) | exact (pm_neN (G := G) (by assumption) (by assumption)).symm) ?_; first | assumption | exact pm_up_eq | (refine pm_up_ne (by first | assumption | (apply Ne.symm; assumption) | exact pm_neK (G := G) (by assumption) (by assumption) (by omega) | exact pm_neOA (G := G) (by assumption) (by assumption) | exact (pm_neOA (G := G) (by assumption) (by assumption)).symm | exact pm_neN (G := G) (by assumption) (by assumption) | exact (pm_neN (G := G) (by assumption) (by assumption)).symm) ?_; first | assumption | exact pm_up_eq | (refine pm_up_ne (by first | assumption | (apply Ne.symm; assumption) | exact pm_neK (G := G) (by assumption) (by assumption) (by omega) | exact pm_neOA (G := G) (by assumption) (by assumption) | exact (pm_neOA (G := G) (by assumption) (by assumption)).symm | exact pm_neN (G := G) (by assumption) (by assumption) | exact (pm_neN (G := G) (by assumption) (by assumption)).symm) ?_; first | assumption | exact pm_up_eq)))))) (c_TT_answer c1 c6 v20 c5) (by omega) (Nat.le_of_ble_eq_true rfl) (by omega) (by omega) ?_
  rintro r1 G1 (⟨u1, rfl, rfl⟩ | ⟨u1, u2, rfl, rfl⟩ | ⟨u1, u2, u3, rfl, rfl⟩ | ⟨u1, u2, u3, rfl, f1, j, T, j0, j1, j2, T1, T2, n', kf', vf', an', has'⟩)
  · refine ev_aload_n d_Law_law_250 rfl rfl ?_
    refine ev_aload_n d_Law_law_251 rfl rfl ?_
    refine ev_iload d_Law_law_252 rfl ?_
    refine ev_iconst (v := 1) d_Law_law_254 (by decide) ?_
    refine ev_iadd d_Law_law_255 ?_
    refine ev_sld d_Law_law_256 (by with_reducible assumption) ?_
    refine ev_aload_n d_Law_law_257 rfl rfl ?_
    refine ev_iload d_Law_law_258 rfl ?_
    refine ev_iconst (v := 2) d_Law_law_260 (by decide) ?_
    refine ev_iadd d_Law_law_261 ?_
    refine ev_sld d_Law_law_262 (by with_reducible assumption) ?_
    refine ev_i2l d_Law_law_263 ?_
    refine ev_bipush (v := 32) d_Law_law_264 (by decide) ?_
    refine ev_lshl d_Law_law_266 ?_
    refine ev_aload_n d_Law_law_267 rfl rfl ?_
    refine ev_iload d_Law_law_268 rfl ?_
    refine ev_iconst (v := 3) d_Law_law_270 (by decide) ?_
    refine ev_iadd d_Law_law_271 ?_
    refine ev_sld d_Law_law_272 (by with_reducible assumption) ?_
    refine ev_i2l d_Law_law_273 ?_
    refine ev_ldc2 d_Law_law_274 hw_1320 ?_
    refine ev_land d_Law_law_277 ?_
    refine ev_lor d_Law_law_278 ?_
    refine ev_aload_n d_Law_law_279 rfl rfl ?_
    refine ev_iload d_Law_law_280 rfl ?_
    refine ev_iconst (v := 4) d_Law_law_282 (by decide) ?_
    refine ev_iadd d_Law_law_283 ?_
    refine ev_sld d_Law_law_284 (by with_reducible assumption) ?_
    refine ev_i2l d_Law_law_285 ?_
    refine ev_bipush (v := 32) d_Law_law_286 (by decide) ?_
    refine ev_lshl d_Law_law_288 ?_
    refine ev_aload_n d_Law_law_289 rfl rfl ?_
    refine ev_iload d_Law_law_290 rfl ?_
    refine ev_iconst (v := 5) d_Law_law_292 (by decide) ?_
    refine ev_iadd d_Law_law_293 ?_
    refine ev_sld d_Law_law_294 (by with_reducible assumption) ?_
    refine ev_i2l d_Law_law_295 ?_
    refine ev_ldc2 d_Law_law_296 hw_1320 ?_
    refine ev_land d_Law_law_299 ?_
    refine ev_lor d_Law_law_300 ?_
    rw [hx, hy]
    refine ev_callV3 d_Law_law_301 ck_Mo_answer ml_Law_43 im_Mo_answer se_Mo_answer rfl hmo.1 (c_Mo_answer hmo m4 v20 m11.1 t200) (by omega) (Nat.le_of_ble_eq_true rfl) (by omega) (by omega) ?_
    rintro r2 G2 (⟨w1, rfl, g2⟩ | ⟨w1, -⟩ | ⟨w1, -⟩ | ⟨w1, -⟩)
    · exact ev_icmp_eq 668 d_Law_law_304 (by decide) (fun _ => kk _ _ _ _ (lw_q hc hp hm ho g2) (by omega) (by omega)) (fun z => absurd rfl z)
    all_goals exact absurd u1 w1
  · refine ev_aload_n d_Law_law_250 rfl rfl ?_
    refine ev_aload_n d_Law_law_251 rfl rfl ?_
    refine ev_iload d_Law_law_252 rfl ?_
    refine ev_iconst (v := 1) d_Law_law_254 (by decide) ?_
    refine ev_iadd d_Law_law_255 ?_
    refine ev_sld d_Law_law_256 (by with_reducible assumption) ?_
    refine ev_aload_n d_Law_law_257 rfl rfl ?_
    refine ev_iload d_Law_law_258 rfl ?_
    refine ev_iconst (v := 2) d_Law_law_260 (by decide) ?_
    refine ev_iadd d_Law_law_261 ?_
    refine ev_sld d_Law_law_262 (by with_reducible assumption) ?_
    refine ev_i2l d_Law_law_263 ?_
    refine ev_bipush (v := 32) d_Law_law_264 (by decide) ?_
    refine ev_lshl d_Law_law_266 ?_
    refine ev_aload_n d_Law_law_267 rfl rfl ?_
    refine ev_iload d_Law_law_268 rfl ?_
    refine ev_iconst (v := 3) d_Law_law_270 (by decide) ?_
    refine ev_iadd d_Law_law_271 ?_
    refine ev_sld d_Law_law_272 (by with_reducible assumption) ?_
    refine ev_i2l d_Law_law_273 ?_
    refine ev_ldc2 d_Law_law_274 hw_1320 ?_
    refine ev_land d_Law_law_277 ?_
    refine ev_lor d_Law_law_278 ?_
    refine ev_aload_n d_Law_law_279 rfl rfl ?_
    refine ev_iload d_Law_law_280 rfl ?_
    refine ev_iconst (v := 4) d_Law_law_282 (by decide) ?_
    refine ev_iadd d_Law_law_283 ?_
    refine ev_sld d_Law_law_284 (by with_reducible assumption) ?_
    refine ev_i2l d_Law_law_285 ?_
    refine ev_bipush (v := 32) d_Law_law_286 (by decide) ?_
    refine ev_lshl d_Law_law_288 ?_
    refine ev_aload_n d_Law_law_289 rfl rfl ?_
    refine ev_iload d_Law_law_290 rfl ?_
    refine ev_iconst (v := 5) d_Law_law_292 (by decide) ?_
    refine ev_iadd d_Law_law_293 ?_
    refine ev_sld d_Law_law_294 (by with_reducible assumption) ?_
    refine ev_i2l d_Law_law_295 ?_
    refine ev_ldc2 d_Law_law_296 hw_1320 ?_
    refine ev_land d_Law_law_299 ?_
    refine ev_lor d_Law_law_300 ?_
    rw [hx, hy]
    refine ev_callV3 d_Law_law_301 ck_Mo_answer ml_Law_43 im_Mo_answer se_Mo_answer rfl hmo.1 (c_Mo_answer hmo m4 v20 m11.1 t200) (by omega) (Nat.le_of_ble_eq_true rfl) (by omega) (by omega) ?_
    rintro r2 G2 (⟨w1, -⟩ | ⟨w1, w2, rfl, g2⟩ | ⟨w1, w2, -⟩ | ⟨w1, w2, -⟩)
    · exact absurd w1 u1
    · exact ev_icmp_eq 668 d_Law_law_304 (by decide) (fun _ => kk _ _ _ _ (lw_q hc hp hm ho g2) (by omega) (by omega)) (fun z => absurd rfl z)
    all_goals exact absurd u2 w2
  · refine ev_aload_n d_Law_law_250 rfl rfl ?_
    refine ev_aload_n d_Law_law_251 rfl rfl ?_
    refine ev_iload d_Law_law_252 rfl ?_
    refine ev_iconst (v := 1) d_Law_law_254 (by decide) ?_
    refine ev_iadd d_Law_law_255 ?_
    refine ev_sld d_Law_law_256 (by with_reducible assumption) ?_
    refine ev_aload_n d_Law_law_257 rfl rfl ?_
    refine ev_iload d_Law_law_258 rfl ?_
    refine ev_iconst (v := 2) d_Law_law_260 (by decide) ?_
    refine ev_iadd d_Law_law_261 ?_
    refine ev_sld d_Law_law_262 (by with_reducible assumption) ?_
    refine ev_i2l d_Law_law_263 ?_
    refine ev_bipush (v := 32) d_Law_law_264 (by decide) ?_
    refine ev_lshl d_Law_law_266 ?_
    refine ev_aload_n d_Law_law_267 rfl rfl ?_
    refine ev_iload d_Law_law_268 rfl ?_
    refine ev_iconst (v := 3) d_Law_law_270 (by decide) ?_
    refine ev_iadd d_Law_law_271 ?_
    refine ev_sld d_Law_law_272 (by with_reducible assumption) ?_
    refine ev_i2l d_Law_law_273 ?_
    refine ev_ldc2 d_Law_law_274 hw_1320 ?_
    refine ev_land d_Law_law_277 ?_
    refine ev_lor d_Law_law_278 ?_
    refine ev_aload_n d_Law_law_279 rfl rfl ?_
    refine ev_iload d_Law_law_280 rfl ?_
    refine ev_iconst (v := 4) d_Law_law_282 (by decide) ?_
    refine ev_iadd d_Law_law_283 ?_
    refine ev_sld d_Law_law_284 (by with_reducible assumption) ?_
    refine ev_i2l d_Law_law_285 ?_
    refine ev_bipush (v := 32) d_Law_law_286 (by decide) ?_
    refine ev_lshl d_Law_law_288 ?_
    refine ev_aload_n d_Law_law_289 rfl rfl ?_
    refine ev_iload d_Law_law_290 rfl ?_
    refine ev_iconst (v := 5) d_Law_law_292 (by decide) ?_
    refine ev_iadd d_Law_law_293 ?_
    refine ev_sld d_Law_law_294 (by with_reducible assumption) ?_
    refine ev_i2l d_Law_law_295 ?_
    refine ev_ldc2 d_Law_law_296 hw_1320 ?_
    refine ev_land d_Law_law_299 ?_
    refine ev_lor d_Law_law_300 ?_
    rw [hx, hy]
    refine ev_callV3 d_Law_law_301 ck_Mo_answer ml_Law_43 im_Mo_answer se_Mo_answer rfl hmo.1 (c_Mo_answer hmo m4 v20 m11.1 t200) (by omega) (Nat.le_of_ble_eq_true rfl) (by omega) (by omega) ?_
    rintro r2 G2 (⟨w1, -⟩ | ⟨w1, w2, -⟩ | ⟨w1, w2, w3, rfl, g2⟩ | ⟨w1, w2, w3, -⟩)
    · exact absurd w1 u1
    · exact absurd w2 u2
    · exact ev_icmp_eq 668 d_Law_law_304 (by decide) (fun _ => kk _ _ _ _ (lw_q hc hp hm ho g2) (by omega) (by omega)) (fun z => absurd rfl z)
    · omega
  · have hc1 := hc.c10 t12 f1 an'
    have hmo := hmo.cl f1 (fun c h => by unfold mo_C at h; omega)
    have hv := v_i32 (v := x) (fun z => z.elim (fun z => u2 (Or.inl z)) (fun z => u2 (Or.inr (Or.inl z))))
    have hok := m12.add (w := x.toInt32) u3 j0 (by omega) T1 hv.2 an'.2.2.2.2.2.2 has'
    refine ev_aload_n d_Law_law_250 rfl rfl ?_
    refine ev_aload_n d_Law_law_251 rfl rfl ?_
    refine ev_iload d_Law_law_252 rfl ?_
    refine ev_iconst (v := 1) d_Law_law_254 (by decide) ?_
    refine ev_iadd d_Law_law_255 ?_
    refine ev_sld d_Law_law_256 (by with_reducible assumption) ?_
    refine ev_aload_n d_Law_law_257 rfl rfl ?_
    refine ev_iload d_Law_law_258 rfl ?_
    refine ev_iconst (v := 2) d_Law_law_260 (by decide) ?_
    refine ev_iadd d_Law_law_261 ?_
    refine ev_sld d_Law_law_262 (by with_reducible assumption) ?_
    refine ev_i2l d_Law_law_263 ?_
    refine ev_bipush (v := 32) d_Law_law_264 (by decide) ?_
    refine ev_lshl d_Law_law_266 ?_
    refine ev_aload_n d_Law_law_267 rfl rfl ?_
    refine ev_iload d_Law_law_268 rfl ?_
    refine ev_iconst (v := 3) d_Law_law_270 (by decide) ?_
    refine ev_iadd d_Law_law_271 ?_
    refine ev_sld d_Law_law_272 (by with_reducible assumption) ?_
    refine ev_i2l d_Law_law_273 ?_
    refine ev_ldc2 d_Law_law_274 hw_1320 ?_
    refine ev_land d_Law_law_277 ?_
    refine ev_lor d_Law_law_278 ?_
    refine ev_aload_n d_Law_law_279 rfl rfl ?_
    refine ev_iload d_Law_law_280 rfl ?_
    refine ev_iconst (v := 4) d_Law_law_282 (by decide) ?_
    refine ev_iadd d_Law_law_283 ?_
    refine ev_sld d_Law_law_284 (by with_reducible assumption) ?_
    refine ev_i2l d_Law_law_285 ?_
    refine ev_bipush (v := 32) d_Law_law_286 (by decide) ?_
    refine ev_lshl d_Law_law_288 ?_
    refine ev_aload_n d_Law_law_289 rfl rfl ?_
    refine ev_iload d_Law_law_290 rfl ?_
    refine ev_iconst (v := 5) d_Law_law_292 (by decide) ?_
    refine ev_iadd d_Law_law_293 ?_
    refine ev_sld d_Law_law_294 (by with_reducible assumption) ?_
    refine ev_i2l d_Law_law_295 ?_
    refine ev_ldc2 d_Law_law_296 hw_1320 ?_
    refine ev_land d_Law_law_299 ?_
    refine ev_lor d_Law_law_300 ?_
    rw [hx, hy]
    refine ev_callV3 d_Law_law_301 ck_Mo_answer ml_Law_43 im_Mo_answer se_Mo_answer rfl hmo.1 (c_Mo_answer hmo m4 v20 m11.1 t200) (by omega) (Nat.le_of_ble_eq_true rfl) (by omega) (by omega) ?_
    rintro r2 G2 (⟨w1, -⟩ | ⟨w1, w2, -⟩ | ⟨w1, w2, w3, -⟩ | ⟨w1, w2, w3, rfl, g2⟩)
    · exact absurd w1 u1
    · exact absurd w2 u2
    · omega
    · have hat : ma_at (told + 1) (va_up av told j) (va_up at' told T) (va_up ax told x.toInt32) (va_up (va_up I 0 0) 38 (nI (told + 1))) (va_up M 39 (upd (M 39) told (sX X (i + 1)))) (va_up (va_up W 40 (vp_updL (W 40) told x)) 41 (vp_updL (W 41) told y)) := by
        refine ⟨rfl, fun b hb => ?_⟩
        show upd (M 39) told (sX X (i + 1)) b = _ ∧ vp_updL (W 41) told y b = _ ∧ vp_updL (W 40) told x b = _
        by_cases e : b = told
        · subst e
          rw [va_up_s, va_up_s, va_up_s]
          simp only [upd, vp_updL, if_true]
          exact ⟨j2, T2, hv.1.symm⟩
        · obtain ⟨x1, x2, x3⟩ := m11.2 b (by omega)
          rw [va_up_n e, va_up_n e, va_up_n e]
          simp only [upd, vp_updL, if_neg e]
          exact ⟨x1, x2, x3⟩
      have hm1 : lm_R c sc p0 rc n' (told + 1) wl se sf D z kf' vf' td bg (va_up av told j) (va_up at' told T) (va_up ax told x.toInt32) (va_up (va_up I 0 0) 38 (nI (told + 1))) J (va_up M 39 (upd (M 39) told (sX X (i + 1)))) (va_up (va_up W 40 (vp_updL (W 40) told x)) 41 (vp_updL (W 41) told y)) := ⟨m1, m2, m3, m4, m5, m6, m7, m8, m9, m10, hat, hok, m13, m14, m15, m16⟩
      exact ev_icmp_eq 668 d_Law_law_304 (by decide) (fun _ => kk _ _ _ _ (lw_n hc1 hp hm1 (f1 _ _ _ ho (by omega)) g2) (by omega) (by omega)) (fun z => absurd rfl z)
end LQ
