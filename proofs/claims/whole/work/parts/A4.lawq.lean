/-! THE LAW: its questions, case by case -/
section LQ
variable {l : Launch} {X : pm_X} {G : pm_G} {a sg0 sc pl an p0 tq rc ka va kv tl sl le ln n told c mo out mc ms kb nb : Nat} {wl i : Int32} {se : Int64} {sf lf : Nat → Int32} {tf : Nat → Option Nat} {D : Nat → tr_D} {ta sa sna : Nat → Nat} {z : pz} {kf : Nat → Nat} {vf : Nat → Int32} {td : Nat → Nat → Int32} {bg : Nat → Int32} {av at' : Nat → Nat} {ax : Nat → Int32} {I : Nat → Int32} {J : Nat → Int64} {M : Nat → Nat → Int32} {W : Nat → Nat → Int64} {A : Nat → Nat} {of : Nat → Int64} {Q : Option Value → pm_G → Prop}
set_option maxHeartbeats 1000000 in
theorem lw_wrong (hc : lc_R X G a sg0 sc pl an p0 tq rc ka va kv tl sl le ln n told wl se sf lf tf D ta sa sna z kf vf td bg) (hp : lp_R sc p0 rc ln se sf lf D z td) (hmo : mo_at G mo A I J M W G) (hm : lm_R c sc p0 rc n told wl se sf D z kf vf td bg av at' ax I J M W) (ho : G out = some (190, .inl (1, 1, .inr (.inl of)))) (hk : kb + 4 * sc + 20 ≤ mc) (hn : nb + 1829 * sc + 7500 ≤ ms)  (kk : lw_K l X a mo out A i mc ms Q kb nb sc) : ev_W l X m_Law_law 40 mc ms Q kb nb 183 (lw_ls X a mo out i) [] G := by
  obtain ⟨c1, c2, c3, c4, c5, c6, c7, c8, c9, c10, c11, c12⟩ := id hc
  obtain ⟨p1, p2, p3, p4, p5, p6, p7, p8, p9, p10, p11, p12⟩ := id hp
  obtain ⟨m1, m2, m3, m4, m5, m6, m7, m8, m9, m10, m11, m12, m13, m14, m15, m16⟩ := id hm
  have t12 := hp.t12
  refine ev_aload_n d_Law_law_183 rfl rfl ?_
  refine ev_callV0 d_Law_law_184 ck_TT_wrong ml_Law_33 im_TT_wrong se_TT_wrong rfl (by first | assumption | exact pm_up_eq | (refine pm_up_ne (by first | assumption | (apply Ne.symm; assumption) | exact pm_neK (G := G) (by assumption) (by assumption) (by omega) | exact pm_neOA (G := G) (by assumption) (by assumption) | exact (pm_neOA (G := G) (by assumption) (by assumption)).symm | exact pm_neN (G := G) (by assumption) (by assumption) | exact (pm_neN (G := G) (by assumption) (by assumption)).symm) ?_; first | assumption | exact pm_up_eq | (refine pm_up_ne (by first | assumption | (apply Ne.symm; assumption) | exact pm_neK (G := G) (by assumption) (by assumption) (by omega) | exact pm_neOA (G := G) (by assumption) (by assumption) | exact (pm_neOA (G := G) (by assumption) (by assumption)).symm | exact pm_neN (G := G) (by assumption) (by assumption) | exact (pm_neN (G := G) (by assumption) (by assumption)).symm) ?_; first | assumption | exact pm_up_eq | (refine pm_up_ne (by first | assumption | (apply Ne.symm; assumption) | exact pm_neK (G := G) (by assumption) (by assumption) (by omega) | exact pm_neOA (G := G) (by assumption) (by assumption) | exact (pm_neOA (G := G) (by assumption) (by assumption)).symm | exact pm_neN (G := G) (by assumption) (by assumption) | exact (pm_neN (G := G) (by assumption) (by assumption)).symm) ?_; first | assumption | exact pm_up_eq | (refine pm_up_ne (by first | assumption | (apply Ne.symm; assumption) | exact pm_neK (G := G) (by assumption) (by assumption) (by omega) | exact pm_neOA (G := G) (by assumption) (by assumption) | exact (pm_neOA (G := G) (by assumption) (by assumption)).symm | exact pm_neN (G := G) (by assumption) (by assumption) | exact (pm_neN (G := G) (by assumption) (by assumption)).symm) ?_; first | assumption | exact pm_up_eq | (refine pm_up_ne (by first | assumption | (apply Ne.symm; assumption) | exact pm_neK (G := G) (by assumption) (by assumption) (by omega) | exact pm_neOA (G := G) (by assumption) (by assumption) | exact (pm_neOA (G := G) (by assumption) (by assumption)).symm | exact pm_neN (G := G) (by assumption) (by assumption) | exact (pm_neN (G := G) (by assumption) (by assumption)).symm) ?_; first | assumption | exact pm_up_eq)))))) (c_TT_wrong c1) (by omega) (Nat.le_of_ble_eq_true rfl) (by omega) (by omega) ?_
  rintro _ _ ⟨rfl, rfl⟩
  refine ev_aload_n d_Law_law_187 rfl rfl ?_
  refine ev_callV0 d_Law_law_188 ck_Mo_wrong ml_Law_36 im_Mo_wrong se_Mo_wrong rfl hmo.1 (c_Mo_wrong hmo m3) (by omega) (Nat.le_of_ble_eq_true rfl) (by omega) (by omega) ?_
  rintro _ G1 ⟨rfl, g2⟩
  skip
  exact ev_icmp_eq 668 d_Law_law_191 (by decide) (fun _ => kk _ _ _ _ (lw_q hc hp hm ho g2) (by omega) (by omega)) (fun z => absurd rfl z)
set_option maxHeartbeats 1000000 in
theorem lw_verdict (hc : lc_R X G a sg0 sc pl an p0 tq rc ka va kv tl sl le ln n told wl se sf lf tf D ta sa sna z kf vf td bg) (hp : lp_R sc p0 rc ln se sf lf D z td) (hmo : mo_at G mo A I J M W G) (hm : lm_R c sc p0 rc n told wl se sf D z kf vf td bg av at' ax I J M W) (ho : G out = some (190, .inl (1, 1, .inr (.inl of)))) (hk : kb + 4 * sc + 20 ≤ mc) (hn : nb + 1829 * sc + 7500 ≤ ms) (h1 : vp_in (i + 1) (X.2.2.2.1 39)) (h2 : vp_in (i + 2) (X.2.2.2.1 39)) (kk : lw_K l X a mo out A i mc ms Q kb nb sc) : ev_W l X m_Law_law 40 mc ms Q kb nb 322 (lw_ls X a mo out i) [] G := by
  obtain ⟨c1, c2, c3, c4, c5, c6, c7, c8, c9, c10, c11, c12⟩ := id hc
  obtain ⟨p1, p2, p3, p4, p5, p6, p7, p8, p9, p10, p11, p12⟩ := id hp
  obtain ⟨m1, m2, m3, m4, m5, m6, m7, m8, m9, m10, m11, m12, m13, m14, m15, m16⟩ := id hm
  have t12 := hp.t12
  refine ev_aload_n d_Law_law_322 rfl rfl ?_
  refine ev_aload_n d_Law_law_323 rfl rfl ?_
  refine ev_iload d_Law_law_324 rfl ?_
  refine ev_iconst (v := 1) d_Law_law_326 (by decide) ?_
  refine ev_iadd d_Law_law_327 ?_
  refine ev_sld d_Law_law_328 (by assumption) ?_
  refine ev_aload_n d_Law_law_329 rfl rfl ?_
  refine ev_iload d_Law_law_330 rfl ?_
  refine ev_iconst (v := 2) d_Law_law_332 (by decide) ?_
  refine ev_iadd d_Law_law_333 ?_
  refine ev_sld d_Law_law_334 (by assumption) ?_
  refine ev_callV2 d_Law_law_335 ck_TT_verdict ml_Law_48 im_TT_verdict se_TT_verdict rfl (by first | assumption | exact pm_up_eq | (refine pm_up_ne (by first | assumption | (apply Ne.symm; assumption) | exact pm_neK (G := G) (by assumption) (by assumption) (by omega) | exact pm_neOA (G := G) (by assumption) (by assumption) | exact (pm_neOA (G := G) (by assumption) (by assumption)).symm | exact pm_neN (G := G) (by assumption) (by assumption) | exact (pm_neN (G := G) (by assumption) (by assumption)).symm) ?_; first | assumption | exact pm_up_eq | (refine pm_up_ne (by first | assumption | (apply Ne.symm; assumption) | exact pm_neK (G := G) (by assumption) (by assumption) (by omega) | exact pm_neOA (G := G) (by assumption) (by assumption) | exact (pm_neOA (G := G) (by assumption) (by assumption)).symm | exact pm_neN (G := G) (by assumption) (by assumption) | exact (pm_neN (G := G) (by assumption) (by assumption)).symm) ?_; first | assumption | exact pm_up_eq | (refine pm_up_ne (by first | assumption | (apply Ne.symm; assumption) | exact pm_neK (G := G) (by assumption) (by assumption) (by omega) | exact pm_neOA (G := G) (by assumption) (by assumption) | exact (pm_neOA (G := G) (by assumption) (by assumption)).symm | exact pm_neN (G := G) (by assumption) (by assumption) | exact (pm_neN (G := G) (by assumption) (by assumption)).symm) ?_; first | assumption | exact pm_up_eq | (refine pm_up_ne (by first | assumption | (apply Ne.symm; assumption) | exact pm_neK (G := G) (by assumption) (by assumption) (by omega) | exact pm_neOA (G := G) (by assumption) (by assumption) | exact (pm_neOA (G := G) (by assumption) (by assumption)).symm | exact pm_neN (G := G) (by assumption) (by assumption) | exact (pm_neN (G := G) (by assumption) (by assumption)).symm) ?_; first | assumption | exact pm_up_eq | (refine pm_up_ne (by first | assumption | (apply Ne.symm; assumption) | exact pm_neK (G := G) (by assumption) (by assumption) (by omega) | exact pm_neOA (G := G) (by assumption) (by assumption) | exact (pm_neOA (G := G) (by assumption) (by assumption)).symm | exact pm_neN (G := G) (by assumption) (by assumption) | exact (pm_neN (G := G) (by assumption) (by assumption)).symm) ?_; first | assumption | exact pm_up_eq)))))) (c_TT_verdict c1 p9 c6 c7 c8 t12) (by omega) (Nat.le_of_ble_eq_true rfl) (by omega) (by omega) ?_
  rintro r1 _ ⟨q1, rfl⟩
  obtain ⟨v1, rfl, y1⟩ := q_one q1
  refine ev_aload_n d_Law_law_338 rfl rfl ?_
  refine ev_aload_n d_Law_law_339 rfl rfl ?_
  refine ev_iload d_Law_law_340 rfl ?_
  refine ev_iconst (v := 1) d_Law_law_342 (by decide) ?_
  refine ev_iadd d_Law_law_343 ?_
  refine ev_sld d_Law_law_344 (by assumption) ?_
  refine ev_aload_n d_Law_law_345 rfl rfl ?_
  refine ev_iload d_Law_law_346 rfl ?_
  refine ev_iconst (v := 2) d_Law_law_348 (by decide) ?_
  refine ev_iadd d_Law_law_349 ?_
  refine ev_sld d_Law_law_350 (by assumption) ?_
  refine ev_callV2 d_Law_law_351 ck_Mo_verdict ml_Law_52 im_Mo_verdict se_Mo_verdict rfl hmo.1 (c_Mo_verdict hmo m5 t12 m7 p9 (fun h => (m16 h).1)) (by omega) (Nat.le_of_ble_eq_true rfl) (by omega) (by omega) ?_
  rintro r2 G1 ⟨q2, g2⟩
  obtain ⟨v2, rfl, y2⟩ := q_one q2
  have e : v1 = v2 := q_eq (by omega) y1 y2
  subst e
  exact ev_icmp_eq 668 d_Law_law_354 (by decide) (fun _ => kk _ _ _ _ (lw_q hc hp hm ho g2) (by omega) (by omega)) (fun z => absurd rfl z)
set_option maxHeartbeats 1000000 in
theorem lw_ended (hc : lc_R X G a sg0 sc pl an p0 tq rc ka va kv tl sl le ln n told wl se sf lf tf D ta sa sna z kf vf td bg) (hp : lp_R sc p0 rc ln se sf lf D z td) (hmo : mo_at G mo A I J M W G) (hm : lm_R c sc p0 rc n told wl se sf D z kf vf td bg av at' ax I J M W) (ho : G out = some (190, .inl (1, 1, .inr (.inl of)))) (hk : kb + 4 * sc + 20 ≤ mc) (hn : nb + 1829 * sc + 7500 ≤ ms) (h1 : vp_in (i + 1) (X.2.2.2.1 39)) (kk : lw_K l X a mo out A i mc ms Q kb nb sc) : ev_W l X m_Law_law 40 mc ms Q kb nb 359 (lw_ls X a mo out i) [] G := by
  obtain ⟨c1, c2, c3, c4, c5, c6, c7, c8, c9, c10, c11, c12⟩ := id hc
  obtain ⟨p1, p2, p3, p4, p5, p6, p7, p8, p9, p10, p11, p12⟩ := id hp
  obtain ⟨m1, m2, m3, m4, m5, m6, m7, m8, m9, m10, m11, m12, m13, m14, m15, m16⟩ := id hm
  have t12 := hp.t12
  refine ev_aload_n d_Law_law_359 rfl rfl ?_
  refine ev_aload_n d_Law_law_360 rfl rfl ?_
  refine ev_iload d_Law_law_361 rfl ?_
  refine ev_iconst (v := 1) d_Law_law_363 (by decide) ?_
  refine ev_iadd d_Law_law_364 ?_
  refine ev_sld d_Law_law_365 (by assumption) ?_
  refine ev_callV1 d_Law_law_366 ck_TT_ended ml_Law_53 im_TT_ended se_TT_ended rfl (by first | assumption | exact pm_up_eq | (refine pm_up_ne (by first | assumption | (apply Ne.symm; assumption) | exact pm_neK (G := G) (by assumption) (by assumption) (by omega) | exact pm_neOA (G := G) (by assumption) (by assumption) | exact (pm_neOA (G := G) (by assumption) (by assumption)).symm | exact pm_neN (G := G) (by assumption) (by assumption) | exact (pm_neN (G := G) (by assumption) (by assumption)).symm) ?_; first | assumption | exact pm_up_eq | (refine pm_up_ne (by first | assumption | (apply Ne.symm; assumption) | exact pm_neK (G := G) (by assumption) (by assumption) (by omega) | exact pm_neOA (G := G) (by assumption) (by assumption) | exact (pm_neOA (G := G) (by assumption) (by assumption)).symm | exact pm_neN (G := G) (by assumption) (by assumption) | exact (pm_neN (G := G) (by assumption) (by assumption)).symm) ?_; first | assumption | exact pm_up_eq | (refine pm_up_ne (by first | assumption | (apply Ne.symm; assumption) | exact pm_neK (G := G) (by assumption) (by assumption) (by omega) | exact pm_neOA (G := G) (by assumption) (by assumption) | exact (pm_neOA (G := G) (by assumption) (by assumption)).symm | exact pm_neN (G := G) (by assumption) (by assumption) | exact (pm_neN (G := G) (by assumption) (by assumption)).symm) ?_; first | assumption | exact pm_up_eq | (refine pm_up_ne (by first | assumption | (apply Ne.symm; assumption) | exact pm_neK (G := G) (by assumption) (by assumption) (by omega) | exact pm_neOA (G := G) (by assumption) (by assumption) | exact (pm_neOA (G := G) (by assumption) (by assumption)).symm | exact pm_neN (G := G) (by assumption) (by assumption) | exact (pm_neN (G := G) (by assumption) (by assumption)).symm) ?_; first | assumption | exact pm_up_eq | (refine pm_up_ne (by first | assumption | (apply Ne.symm; assumption) | exact pm_neK (G := G) (by assumption) (by assumption) (by omega) | exact pm_neOA (G := G) (by assumption) (by assumption) | exact (pm_neOA (G := G) (by assumption) (by assumption)).symm | exact pm_neN (G := G) (by assumption) (by assumption) | exact (pm_neN (G := G) (by assumption) (by assumption)).symm) ?_; first | assumption | exact pm_up_eq)))))) (c_TT_ended c1 c6 c7 c8 t12) (by omega) (Nat.le_of_ble_eq_true rfl) (by omega) (by omega) ?_
  rintro r1 _ ⟨q1, rfl⟩
  obtain ⟨v1, rfl, y1⟩ := q_one q1
  refine ev_aload_n d_Law_law_369 rfl rfl ?_
  refine ev_aload_n d_Law_law_370 rfl rfl ?_
  refine ev_iload d_Law_law_371 rfl ?_
  refine ev_iconst (v := 1) d_Law_law_373 (by decide) ?_
  refine ev_iadd d_Law_law_374 ?_
  refine ev_sld d_Law_law_375 (by assumption) ?_
  refine ev_callV1 d_Law_law_376 ck_Mo_ended ml_Law_57 im_Mo_ended se_Mo_ended rfl hmo.1 (c_Mo_ended hmo m5 t12 m14) (by omega) (Nat.le_of_ble_eq_true rfl) (by omega) (by omega) ?_
  rintro r2 G1 ⟨q2, g2⟩
  obtain ⟨v2, rfl, y2⟩ := q_one q2
  have e : v1 = v2 := q_eq (by omega) y1 y2
  subst e
  exact ev_icmp_eq 668 d_Law_law_379 (by decide) (fun _ => kk _ _ _ _ (lw_q hc hp hm ho g2) (by omega) (by omega)) (fun z => absurd rfl z)
set_option maxHeartbeats 1000000 in
theorem lw_undone (hc : lc_R X G a sg0 sc pl an p0 tq rc ka va kv tl sl le ln n told wl se sf lf tf D ta sa sna z kf vf td bg) (hp : lp_R sc p0 rc ln se sf lf D z td) (hmo : mo_at G mo A I J M W G) (hm : lm_R c sc p0 rc n told wl se sf D z kf vf td bg av at' ax I J M W) (ho : G out = some (190, .inl (1, 1, .inr (.inl of)))) (hk : kb + 4 * sc + 20 ≤ mc) (hn : nb + 1829 * sc + 7500 ≤ ms) (h1 : vp_in (i + 1) (X.2.2.2.1 39)) (kk : lw_K l X a mo out A i mc ms Q kb nb sc) : ev_W l X m_Law_law 40 mc ms Q kb nb 437 (lw_ls X a mo out i) [] G := by
  obtain ⟨c1, c2, c3, c4, c5, c6, c7, c8, c9, c10, c11, c12⟩ := id hc
  obtain ⟨p1, p2, p3, p4, p5, p6, p7, p8, p9, p10, p11, p12⟩ := id hp
  obtain ⟨m1, m2, m3, m4, m5, m6, m7, m8, m9, m10, m11, m12, m13, m14, m15, m16⟩ := id hm
  have t12 := hp.t12
  refine ev_aload_n d_Law_law_437 rfl rfl ?_
  refine ev_aload_n d_Law_law_438 rfl rfl ?_
  refine ev_iload d_Law_law_439 rfl ?_
  refine ev_iconst (v := 1) d_Law_law_441 (by decide) ?_
  refine ev_iadd d_Law_law_442 ?_
  refine ev_sld d_Law_law_443 (by assumption) ?_
  refine ev_callV1 d_Law_law_444 ck_TT_undone ml_Law_63 im_TT_undone se_TT_undone rfl (by first | assumption | exact pm_up_eq | (refine pm_up_ne (by first | assumption | (apply Ne.symm; assumption) | exact pm_neK (G := G) (by assumption) (by assumption) (by omega) | exact pm_neOA (G := G) (by assumption) (by assumption) | exact (pm_neOA (G := G) (by assumption) (by assumption)).symm | exact pm_neN (G := G) (by assumption) (by assumption) | exact (pm_neN (G := G) (by assumption) (by assumption)).symm) ?_; first | assumption | exact pm_up_eq | (refine pm_up_ne (by first | assumption | (apply Ne.symm; assumption) | exact pm_neK (G := G) (by assumption) (by assumption) (by omega) | exact pm_neOA (G := G) (by assumption) (by assumption) | exact (pm_neOA (G := G) (by assumption) (by assumption)).symm | exact pm_neN (G := G) (by assumption) (by assumption) | exact (pm_neN (G := G) (by assumption) (by assumption)).symm) ?_; first | assumption | exact pm_up_eq | (refine pm_up_ne (by first | assumption | (apply Ne.symm; assumption) | exact pm_neK (G := G) (by assumption) (by assumption) (by omega) | exact pm_neOA (G := G) (by assumption) (by assumption) | exact (pm_neOA (G := G) (by assumption) (by assumption)).symm | exact pm_neN (G := G) (by assumption) (by assumption) | exact (pm_neN (G := G) (by assumption) (by assumption)).symm) ?_; first | assumption | exact pm_up_eq | (refine pm_up_ne (by first | assumption | (apply Ne.symm; assumption) | exact pm_neK (G := G) (by assumption) (by assumption) (by omega) | exact pm_neOA (G := G) (by assumption) (by assumption) | exact (pm_neOA (G := G) (by assumption) (by assumption)).symm | exact pm_neN (G := G) (by assumption) (by assumption) | exact (pm_neN (G := G) (by assumption) (by assumption)).symm) ?_; first | assumption | exact pm_up_eq | (refine pm_up_ne (by first | assumption | (apply Ne.symm; assumption) | exact pm_neK (G := G) (by assumption) (by assumption) (by omega) | exact pm_neOA (G := G) (by assumption) (by assumption) | exact (pm_neOA (G := G) (by assumption) (by assumption)).symm | exact pm_neN (G := G) (by assumption) (by assumption) | exact (pm_neN (G := G) (by assumption) (by assumption)).symm) ?_; first | assumption | exact pm_up_eq)))))) (c_TT_undone c1 c3 c4) (by omega) (Nat.le_of_ble_eq_true rfl) (by omega) (by omega) ?_
  rintro _ _ ⟨rfl, rfl⟩
  refine ev_aload_n d_Law_law_447 rfl rfl ?_
  refine ev_aload_n d_Law_law_448 rfl rfl ?_
  refine ev_iload d_Law_law_449 rfl ?_
  refine ev_iconst (v := 1) d_Law_law_451 (by decide) ?_
  refine ev_iadd d_Law_law_452 ?_
  refine ev_sld d_Law_law_453 (by assumption) ?_
  refine ev_callV1 d_Law_law_454 ck_Mo_undone ml_Law_66 im_Mo_undone se_Mo_undone rfl hmo.1 (c_Mo_undone (u := if rc = 0 then 0 else (D (rc - 1)).2.1) (U := (D (rc - 1)).2.2.2.2.2.2) hmo m7 p9 (by by_cases h : rc = 0; rw [if_pos h]; omega; rw [if_neg h]; exact (p12 (rc - 1) (by omega)).2.1) (fun h => by rw [if_neg h]; exact (m16 h).2.1) (fun h j hj => by rw [if_neg h] at hj; exact (m16 h).2.2.1 j hj)) (by omega) (Nat.le_of_ble_eq_true rfl) (by omega) (by omega) ?_
  rintro _ G1 ⟨rfl, g2⟩
  have e : (if rc = 0 then (0 : Int32) else if sX X (i + 1) < 0 ∨ nI (D (rc - 1)).2.1 ≤ sX X (i + 1) then 0 else (D (rc - 1)).2.2.2.2.2.2 (sX X (i + 1)).toNatClampNeg) = (if rc = 0 then (0 : Int32) else if sX X (i + 1) < 0 ∨ nI (if rc = 0 then 0 else (D (rc - 1)).2.1) ≤ sX X (i + 1) then 0 else (D (rc - 1)).2.2.2.2.2.2 (sX X (i + 1)).toNatClampNeg) := by
    by_cases h : rc = 0
    · rw [if_pos h, if_pos h]
    · rw [if_neg h, if_neg h, if_neg h]
  rw [← e]
  exact ev_icmp_eq 668 d_Law_law_457 (by decide) (fun _ => kk _ _ _ _ (lw_q hc hp hm ho g2) (by omega) (by omega)) (fun z => absurd rfl z)
set_option maxHeartbeats 1000000 in
theorem lw_differ (hc : lc_R X G a sg0 sc pl an p0 tq rc ka va kv tl sl le ln n told wl se sf lf tf D ta sa sna z kf vf td bg) (hp : lp_R sc p0 rc ln se sf lf D z td) (hmo : mo_at G mo A I J M W G) (hm : lm_R c sc p0 rc n told wl se sf D z kf vf td bg av at' ax I J M W) (ho : G out = some (190, .inl (1, 1, .inr (.inl of)))) (hk : kb + 4 * sc + 20 ≤ mc) (hn : nb + 1829 * sc + 7500 ≤ ms) (h1 : vp_in (i + 1) (X.2.2.2.1 39)) (h2 : vp_in (i + 2) (X.2.2.2.1 39)) (kk : lw_K l X a mo out A i mc ms Q kb nb sc) : ev_W l X m_Law_law 40 mc ms Q kb nb 462 (lw_ls X a mo out i) [] G := by
  obtain ⟨c1, c2, c3, c4, c5, c6, c7, c8, c9, c10, c11, c12⟩ := id hc
  obtain ⟨p1, p2, p3, p4, p5, p6, p7, p8, p9, p10, p11, p12⟩ := id hp
  obtain ⟨m1, m2, m3, m4, m5, m6, m7, m8, m9, m10, m11, m12, m13, m14, m15, m16⟩ := id hm
  have t12 := hp.t12
  refine ev_aload_n d_Law_law_462 rfl rfl ?_
  refine ev_aload_n d_Law_law_463 rfl rfl ?_
  refine ev_iload d_Law_law_464 rfl ?_
  refine ev_iconst (v := 1) d_Law_law_466 (by decide) ?_
  refine ev_iadd d_Law_law_467 ?_
  refine ev_sld d_Law_law_468 (by assumption) ?_
  refine ev_aload_n d_Law_law_469 rfl rfl ?_
  refine ev_iload d_Law_law_470 rfl ?_
  refine ev_iconst (v := 2) d_Law_law_472 (by decide) ?_
  refine ev_iadd d_Law_law_473 ?_
  refine ev_sld d_Law_law_474 (by assumption) ?_
  refine ev_callV2 d_Law_law_475 ck_TT_differ ml_Law_67 im_TT_differ se_TT_differ rfl (by first | assumption | exact pm_up_eq | (refine pm_up_ne (by first | assumption | (apply Ne.symm; assumption) | exact pm_neK (G := G) (by assumption) (by assumption) (by omega) | exact pm_neOA (G := G) (by assumption) (by assumption) | exact (pm_neOA (G := G) (by assumption) (by assumption)).symm | exact pm_neN (G := G) (by assumption) (by assumption) | exact (pm_neN (G := G) (by assumption) (by assumption)).symm) ?_; first | assumption | exact pm_up_eq | (refine pm_up_ne (by first | assumption | (apply Ne.symm; assumption) | exact pm_neK (G := G) (by assumption) (by assumption) (by omega) | exact pm_neOA (G := G) (by assumption) (by assumption) | exact (pm_neOA (G := G) (by assumption) (by assumption)).symm | exact pm_neN (G := G) (by assumption) (by assumption) | exact (pm_neN (G := G) (by assumption) (by assumption)).symm) ?_; first | assumption | exact pm_up_eq | (refine pm_up_ne (by first | assumption | (apply Ne.symm; assumption) | exact pm_neK (G := G) (by assumption) (by assumption) (by omega) | exact pm_neOA (G := G) (by assumption) (by assumption) | exact (pm_neOA (G := G) (by assumption) (by assumption)).symm | exact pm_neN (G := G) (by assumption) (by assumption) | exact (pm_neN (G := G) (by assumption) (by assumption)).symm) ?_; first | assumption | exact pm_up_eq | (refine pm_up_ne (by first | assumption | (apply Ne.symm; assumption) | exact pm_neK (G := G) (by assumption) (by assumption) (by omega) | exact pm_neOA (G := G) (by assumption) (by assumption) | exact (pm_neOA (G := G) (by assumption) (by assumption)).symm | exact pm_neN (G := G) (by assumption) (by assumption) | exact (pm_neN (G := G) (by assumption) (by assumption)).symm) ?_; first | assumption | exact pm_up_eq | (refine pm_up_ne (by first | assumption | (apply Ne.symm; assumption) | exact pm_neK (G := G) (by assumption) (by assumption) (by omega) | exact pm_neOA (G := G) (by assumption) (by assumption) | exact (pm_neOA (G := G) (by assumption) (by assumption)).symm | exact pm_neN (G := G) (by assumption) (by assumption) | exact (pm_neN (G := G) (by assumption) (by assumption)).symm) ?_; first | assumption | exact pm_up_eq)))))) (c_TT_differ c1 c3 c4) (by omega) (Nat.le_of_ble_eq_true rfl) (by omega) (by omega) ?_
  rintro r1 _ ⟨q1, rfl⟩
  obtain ⟨v1, rfl, y1⟩ : ∃ v, r1 = some (.int v) ∧ (((sX X (i + 1) < 1 ∨ nI rc < sX X (i + 1) ∨ sX X (i + 2) < 1 ∨ nI rc < sX X (i + 2)) ∧ v = -2) ∨ ∃ i0 j, i0 < rc ∧ j < rc ∧ sX X (i + 1) = nI (i0 + 1) ∧ sX X (i + 2) = nI (j + 1) ∧ fd_R (D i0) (D j) v) := by
    rcases q1 with ⟨u1, u2⟩ | ⟨i0, j, v, u1, u2, u3, u4, u5, u6⟩
    · exact ⟨_, u2, Or.inl ⟨u1, rfl⟩⟩
    · exact ⟨v, u6, Or.inr ⟨i0, j, u1, u2, u3, u4, u5⟩⟩
  refine ev_aload_n d_Law_law_478 rfl rfl ?_
  refine ev_aload_n d_Law_law_479 rfl rfl ?_
  refine ev_iload d_Law_law_480 rfl ?_
  refine ev_iconst (v := 1) d_Law_law_482 (by decide) ?_
  refine ev_iadd d_Law_law_483 ?_
  refine ev_sld d_Law_law_484 (by assumption) ?_
  refine ev_aload_n d_Law_law_485 rfl rfl ?_
  refine ev_iload d_Law_law_486 rfl ?_
  refine ev_iconst (v := 2) d_Law_law_488 (by decide) ?_
  refine ev_iadd d_Law_law_489 ?_
  refine ev_sld d_Law_law_490 (by assumption) ?_
  refine ev_callV2 d_Law_law_491 ck_Mo_differ ml_Law_70 im_Mo_differ se_Mo_differ rfl hmo.1 (c_Mo_differ hmo m7 p9 m15) (by omega) (Nat.le_of_ble_eq_true rfl) (by omega) (by omega) ?_
  rintro r2 G1 ⟨q2, g2⟩
  obtain ⟨v2, rfl, y2⟩ : ∃ v, r2 = some (.int v) ∧ (((sX X (i + 1) < 1 ∨ nI rc < sX X (i + 1) ∨ sX X (i + 2) < 1 ∨ nI rc < sX X (i + 2)) ∧ v = -2) ∨ ∃ i0 j, i0 < rc ∧ j < rc ∧ sX X (i + 1) = nI (i0 + 1) ∧ sX X (i + 2) = nI (j + 1) ∧ fd_R (D i0) (D j) v) := by
    rcases q2 with ⟨u1, u2⟩ | ⟨i0, j, v, u1, u2, u3, u4, u5, u6⟩
    · exact ⟨_, u2, Or.inl ⟨u1, rfl⟩⟩
    · exact ⟨v, u6, Or.inr ⟨i0, j, u1, u2, u3, u4, u5⟩⟩
  have e : v1 = v2 := by
    rcases y1 with ⟨u1, u2⟩ | ⟨i0, j, u1, u2, u3, u4, u5⟩
    · rcases y2 with ⟨w1, w2⟩ | ⟨i9, j9, w1, w2, w3, w4, w5⟩
      · rw [u2, w2]
      · rcases u1 with u1 | u1 | u1 | u1
        · exact (q_out (by omega) (Or.inl u1) w1 w3).elim
        · exact (q_out (by omega) (Or.inr u1) w1 w3).elim
        · exact (q_out (by omega) (Or.inl u1) w2 w4).elim
        · exact (q_out (by omega) (Or.inr u1) w2 w4).elim
    · rcases y2 with ⟨w1, w2⟩ | ⟨i9, j9, w1, w2, w3, w4, w5⟩
      · rcases w1 with w1 | w1 | w1 | w1
        · exact (q_out (by omega) (Or.inl w1) u1 u3).elim
        · exact (q_out (by omega) (Or.inr w1) u1 u3).elim
        · exact (q_out (by omega) (Or.inl w1) u2 u4).elim
        · exact (q_out (by omega) (Or.inr w1) u2 u4).elim
      · have e1 : i0 + 1 = i9 + 1 := (nI_eq (by omega) (by omega)).mp (u3.symm.trans w3)
        have e2 : j + 1 = j9 + 1 := (nI_eq (by omega) (by omega)).mp (u4.symm.trans w4)
        have e1 : i0 = i9 := by omega
        have e2 : j = j9 := by omega
        subst e1
        subst e2
        exact fd_eq u5 w5
  subst e
  exact ev_icmp_eq 668 d_Law_law_494 (by decide) (fun _ => kk _ _ _ _ (lw_q hc hp hm ho g2) (by omega) (by omega)) (fun z => absurd rfl z)
set_option maxHeartbeats 1000000 in
theorem lw_cover (hc : lc_R X G a sg0 sc pl an p0 tq rc ka va kv tl sl le ln n told wl se sf lf tf D ta sa sna z kf vf td bg) (hp : lp_R sc p0 rc ln se sf lf D z td) (hmo : mo_at G mo A I J M W G) (hm : lm_R c sc p0 rc n told wl se sf D z kf vf td bg av at' ax I J M W) (ho : G out = some (190, .inl (1, 1, .inr (.inl of)))) (hk : kb + 4 * sc + 20 ≤ mc) (hn : nb + 1829 * sc + 7500 ≤ ms) (h1 : vp_in (i + 1) (X.2.2.2.1 39)) (h2 : vp_in (i + 2) (X.2.2.2.1 39)) (kk : lw_K l X a mo out A i mc ms Q kb nb sc) : ev_W l X m_Law_law 40 mc ms Q kb nb 499 (lw_ls X a mo out i) [] G := by
  obtain ⟨c1, c2, c3, c4, c5, c6, c7, c8, c9, c10, c11, c12⟩ := id hc
  obtain ⟨p1, p2, p3, p4, p5, p6, p7, p8, p9, p10, p11, p12⟩ := id hp
  obtain ⟨m1, m2, m3, m4, m5, m6, m7, m8, m9, m10, m11, m12, m13, m14, m15, m16⟩ := id hm
  have t12 := hp.t12
  have sn := p1.1.sn
  refine ev_aload_n d_Law_law_499 rfl rfl ?_
  refine ev_aload_n d_Law_law_500 rfl rfl ?_
  refine ev_iload d_Law_law_501 rfl ?_
  refine ev_iconst (v := 1) d_Law_law_503 (by decide) ?_
  refine ev_iadd d_Law_law_504 ?_
  refine ev_sld d_Law_law_505 (by assumption) ?_
  refine ev_aload_n d_Law_law_506 rfl rfl ?_
  refine ev_iload d_Law_law_507 rfl ?_
  refine ev_iconst (v := 2) d_Law_law_509 (by decide) ?_
  refine ev_iadd d_Law_law_510 ?_
  refine ev_sld d_Law_law_511 (by assumption) ?_
  refine ev_callV2 d_Law_law_512 ck_TT_cover ml_Law_71 im_TT_cover se_TT_cover rfl (by first | assumption | exact pm_up_eq | (refine pm_up_ne (by first | assumption | (apply Ne.symm; assumption) | exact pm_neK (G := G) (by assumption) (by assumption) (by omega) | exact pm_neOA (G := G) (by assumption) (by assumption) | exact (pm_neOA (G := G) (by assumption) (by assumption)).symm | exact pm_neN (G := G) (by assumption) (by assumption) | exact (pm_neN (G := G) (by assumption) (by assumption)).symm) ?_; first | assumption | exact pm_up_eq | (refine pm_up_ne (by first | assumption | (apply Ne.symm; assumption) | exact pm_neK (G := G) (by assumption) (by assumption) (by omega) | exact pm_neOA (G := G) (by assumption) (by assumption) | exact (pm_neOA (G := G) (by assumption) (by assumption)).symm | exact pm_neN (G := G) (by assumption) (by assumption) | exact (pm_neN (G := G) (by assumption) (by assumption)).symm) ?_; first | assumption | exact pm_up_eq | (refine pm_up_ne (by first | assumption | (apply Ne.symm; assumption) | exact pm_neK (G := G) (by assumption) (by assumption) (by omega) | exact pm_neOA (G := G) (by assumption) (by assumption) | exact (pm_neOA (G := G) (by assumption) (by assumption)).symm | exact pm_neN (G := G) (by assumption) (by assumption) | exact (pm_neN (G := G) (by assumption) (by assumption)).symm) ?_; first | assumption | exact pm_up_eq | (refine pm_up_ne (by first | assumption | (apply Ne.symm; assumption) | exact pm_neK (G := G) (by assumption) (by assumption) (by omega) | exact pm_neOA (G := G) (by assumption) (by assumption) | exact (pm_neOA (G := G) (by assumption) (by assumption)).symm | exact pm_neN (G := G) (by assumption) (by assumption) | exact (pm_neN (G := G) (by assumption) (by assumption)).symm) ?_; first | assumption | exact pm_up_eq | (refine pm_up_ne (by first | assumption | (apply Ne.symm; assumption) | exact pm_neK (G := G) (by assumption) (by assumption) (by omega) | exact pm_neOA (G := G) (by assumption) (by assumption) | exact (pm_neOA (G := G) (by assumption) (by assumption)).symm | exact pm_neN (G := G) (by assumption) (by assumption) | exact (pm_neN (G := G) (by assumption) (by assumption)).symm) ?_; first | assumption | exact pm_up_eq)))))) (c_TT_cover c1 c3 c4 c6 c7 c8 t12 c9 c10 (by omega) (fun j hj => ⟨zFi z j, zBe z j, (p10 j hj).1, (p10 j hj).2.1, (pz_pt p1.1 p1.2.choose_spec j hj).2.2.1, (pz_pt p1.1 p1.2.choose_spec j hj).2.2.2.1⟩)) (by omega) (Nat.le_of_ble_eq_true rfl) (by omega) (by omega) ?_
  rintro r1 _ ⟨q1, rfl⟩
  obtain ⟨v1, rfl, y1⟩ : ∃ v, r1 = some (.int v) ∧ ((sX X (i + 1) = 0 ∧ (((sX X (i + 2) < 1 ∨ nI (zTn z) < sX X (i + 2)) ∧ v = -1) ∨ ∃ j, j < zTn z ∧ sX X (i + 2) = nI (j + 1) ∧ v = nI (pl_cb (fun j => upd (zSD z j) 8 (bg j)) (zBe z j - zFi z j) (zFi z j)))) ∨ (sX X (i + 1) = 1 ∧ v = (if sX X (i + 2) < 1 ∨ nI (zVn z) < sX X (i + 2) then -1 else nI (pl_ct (fun i => (lN (zTk z i), td i)) (sX X (i + 2)) (zTn z)))) ∨ (sX X (i + 1) = 2 ∧ v = nI (tr_sum D rc)) ∨ (sX X (i + 1) ≠ 0 ∧ sX X (i + 1) ≠ 1 ∧ sX X (i + 1) ≠ 2 ∧ v = -2)) := by
    rcases q1 with ⟨u1, ⟨u2, u3⟩ | ⟨j, fi, be, j1, j2, j3, j4, j5, j6, j7⟩⟩ | ⟨u1, u2⟩ | ⟨u1, u2⟩ | ⟨u1, u2, u3, u4⟩
    · exact ⟨_, u3, Or.inl ⟨u1, Or.inl ⟨u2, rfl⟩⟩⟩
    · have x1 : nI fi = nI (zFi z j) := j3.symm.trans (p10 j j1).1
      have x2 : nI be = nI (zBe z j) := j4.symm.trans (p10 j j1).2.1
      obtain ⟨-, -, y3, y4, -⟩ := pz_pt p1.1 p1.2.choose_spec j j1
      have x3 : fi = zFi z j := (nI_eq (by omega) (by omega)).mp x1
      have x4 : be = zBe z j := (nI_eq (by omega) (by omega)).mp x2
      subst x3
      subst x4
      exact ⟨_, j7, Or.inl ⟨u1, Or.inr ⟨j, j1, j2, rfl⟩⟩⟩
    · exact ⟨_, u2, Or.inr (Or.inl ⟨u1, rfl⟩)⟩
    · exact ⟨_, u2, Or.inr (Or.inr (Or.inl ⟨u1, rfl⟩))⟩
    · exact ⟨_, u4, Or.inr (Or.inr (Or.inr ⟨u1, u2, u3, rfl⟩))⟩
  refine ev_aload_n d_Law_law_515 rfl rfl ?_
  refine ev_aload_n d_Law_law_516 rfl rfl ?_
  refine ev_iload d_Law_law_517 rfl ?_
  refine ev_iconst (v := 1) d_Law_law_519 (by decide) ?_
  refine ev_iadd d_Law_law_520 ?_
  refine ev_sld d_Law_law_521 (by assumption) ?_
  refine ev_aload_n d_Law_law_522 rfl rfl ?_
  refine ev_iload d_Law_law_523 rfl ?_
  refine ev_iconst (v := 2) d_Law_law_525 (by decide) ?_
  refine ev_iadd d_Law_law_526 ?_
  refine ev_sld d_Law_law_527 (by assumption) ?_
  refine ev_callV2 d_Law_law_528 ck_Mo_cover ml_Law_74 im_Mo_cover se_Mo_cover rfl hmo.1 (c_Mo_cover (td := fun i => (lN (zTk z i), td i)) (sd := fun j => upd (zSD z j) 8 (bg j)) p1 p2 m10 m4 m5 m7 p9 m15 m13 (fun j hj => (p10 j hj).2.2.2) hmo) (by omega) (Nat.le_of_ble_eq_true rfl) (by omega) (by omega) ?_
  rintro r2 G1 ⟨q2, g2⟩
  obtain ⟨v2, rfl, y2⟩ : ∃ v, r2 = some (.int v) ∧ ((sX X (i + 1) = 0 ∧ (((sX X (i + 2) < 1 ∨ nI (zTn z) < sX X (i + 2)) ∧ v = -1) ∨ ∃ j, j < zTn z ∧ sX X (i + 2) = nI (j + 1) ∧ v = nI (pl_cb (fun j => upd (zSD z j) 8 (bg j)) (zBe z j - zFi z j) (zFi z j)))) ∨ (sX X (i + 1) = 1 ∧ v = (if sX X (i + 2) < 1 ∨ nI (zVn z) < sX X (i + 2) then -1 else nI (pl_ct (fun i => (lN (zTk z i), td i)) (sX X (i + 2)) (zTn z)))) ∨ (sX X (i + 1) = 2 ∧ v = nI (tr_sum D rc)) ∨ (sX X (i + 1) ≠ 0 ∧ sX X (i + 1) ≠ 1 ∧ sX X (i + 1) ≠ 2 ∧ v = -2)) := by
    rcases q2 with ⟨u1, ⟨u2, u3⟩ | ⟨j, j1, j2, j3⟩⟩ | ⟨u1, u2⟩ | ⟨u1, u2⟩ | ⟨u1, u2, u3, u4⟩
    · exact ⟨_, u3, Or.inl ⟨u1, Or.inl ⟨u2, rfl⟩⟩⟩
    · exact ⟨_, j3, Or.inl ⟨u1, Or.inr ⟨j, j1, j2, rfl⟩⟩⟩
    · exact ⟨_, u2, Or.inr (Or.inl ⟨u1, rfl⟩)⟩
    · exact ⟨_, u2, Or.inr (Or.inr (Or.inl ⟨u1, rfl⟩))⟩
    · exact ⟨_, u4, Or.inr (Or.inr (Or.inr ⟨u1, u2, u3, rfl⟩))⟩
  have e : v1 = v2 := by
    rcases y1 with ⟨u1, u2⟩ | ⟨u1, u2⟩ | ⟨u1, u2⟩ | ⟨u1, u2, u3, u4⟩
    · rcases y2 with ⟨w1, w2⟩ | ⟨w1, w2⟩ | ⟨w1, w2⟩ | ⟨w1, w2, w3, w4⟩
      · exact q_eq (f := fun j => nI (pl_cb (fun j => upd (zSD z j) 8 (bg j)) (zBe z j - zFi z j) (zFi z j))) (by omega) u2 w2
      · exact absurd (u1.symm.trans w1) (by decide)
      · exact absurd (u1.symm.trans w1) (by decide)
      · exact absurd u1 w1
    · rcases y2 with ⟨w1, w2⟩ | ⟨w1, w2⟩ | ⟨w1, w2⟩ | ⟨w1, w2, w3, w4⟩
      · exact absurd (u1.symm.trans w1) (by decide)
      · rw [u2, w2]
      · exact absurd (u1.symm.trans w1) (by decide)
      · exact absurd u1 w2
    · rcases y2 with ⟨w1, w2⟩ | ⟨w1, w2⟩ | ⟨w1, w2⟩ | ⟨w1, w2, w3, w4⟩
      · exact absurd (u1.symm.trans w1) (by decide)
      · exact absurd (u1.symm.trans w1) (by decide)
      · rw [u2, w2]
      · exact absurd u1 w3
    · rcases y2 with ⟨w1, w2⟩ | ⟨w1, w2⟩ | ⟨w1, w2⟩ | ⟨w1, w2, w3, w4⟩
      · exact absurd w1 u1
      · exact absurd w1 u2
      · exact absurd w1 u3
      · rw [u4, w4]
  subst e
  exact ev_icmp_eq 668 d_Law_law_531 (by decide) (fun _ => kk _ _ _ _ (lw_q hc hp hm ho g2) (by omega) (by omega)) (fun z => absurd rfl z)
set_option maxHeartbeats 1000000 in
theorem lw_least (hc : lc_R X G a sg0 sc pl an p0 tq rc ka va kv tl sl le ln n told wl se sf lf tf D ta sa sna z kf vf td bg) (hp : lp_R sc p0 rc ln se sf lf D z td) (hmo : mo_at G mo A I J M W G) (hm : lm_R c sc p0 rc n told wl se sf D z kf vf td bg av at' ax I J M W) (ho : G out = some (190, .inl (1, 1, .inr (.inl of)))) (hk : kb + 4 * sc + 20 ≤ mc) (hn : nb + 1829 * sc + 7500 ≤ ms) (h1 : vp_in (i + 1) (X.2.2.2.1 39)) (kk : lw_K l X a mo out A i mc ms Q kb nb sc) : ev_W l X m_Law_law 40 mc ms Q kb nb 536 (lw_ls X a mo out i) [] G := by
  obtain ⟨c1, c2, c3, c4, c5, c6, c7, c8, c9, c10, c11, c12⟩ := id hc
  obtain ⟨p1, p2, p3, p4, p5, p6, p7, p8, p9, p10, p11, p12⟩ := id hp
  obtain ⟨m1, m2, m3, m4, m5, m6, m7, m8, m9, m10, m11, m12, m13, m14, m15, m16⟩ := id hm
  have t12 := hp.t12
  obtain ⟨f0, hf0⟩ := p11
  have l12 : ln ≤ 12 := by
    have := pl_lc_le (zTn z) (pl_best (fun i => (lN (zTk z i), zTD z i)) (zTn z)) f0 (zTn z)
    rw [← hf0] at this
    exact Nat.le_trans this t12
  refine ev_aload_n d_Law_law_536 rfl rfl ?_
  refine ev_aload_n d_Law_law_537 rfl rfl ?_
  refine ev_iload d_Law_law_538 rfl ?_
  refine ev_iconst (v := 1) d_Law_law_540 (by decide) ?_
  refine ev_iadd d_Law_law_541 ?_
  refine ev_sld d_Law_law_542 (by assumption) ?_
  refine ev_callV1 d_Law_law_543 ck_TT_least ml_Law_75 im_TT_least se_TT_least rfl (by first | assumption | exact pm_up_eq | (refine pm_up_ne (by first | assumption | (apply Ne.symm; assumption) | exact pm_neK (G := G) (by assumption) (by assumption) (by omega) | exact pm_neOA (G := G) (by assumption) (by assumption) | exact (pm_neOA (G := G) (by assumption) (by assumption)).symm | exact pm_neN (G := G) (by assumption) (by assumption) | exact (pm_neN (G := G) (by assumption) (by assumption)).symm) ?_; first | assumption | exact pm_up_eq | (refine pm_up_ne (by first | assumption | (apply Ne.symm; assumption) | exact pm_neK (G := G) (by assumption) (by assumption) (by omega) | exact pm_neOA (G := G) (by assumption) (by assumption) | exact (pm_neOA (G := G) (by assumption) (by assumption)).symm | exact pm_neN (G := G) (by assumption) (by assumption) | exact (pm_neN (G := G) (by assumption) (by assumption)).symm) ?_; first | assumption | exact pm_up_eq | (refine pm_up_ne (by first | assumption | (apply Ne.symm; assumption) | exact pm_neK (G := G) (by assumption) (by assumption) (by omega) | exact pm_neOA (G := G) (by assumption) (by assumption) | exact (pm_neOA (G := G) (by assumption) (by assumption)).symm | exact pm_neN (G := G) (by assumption) (by assumption) | exact (pm_neN (G := G) (by assumption) (by assumption)).symm) ?_; first | assumption | exact pm_up_eq | (refine pm_up_ne (by first | assumption | (apply Ne.symm; assumption) | exact pm_neK (G := G) (by assumption) (by assumption) (by omega) | exact pm_neOA (G := G) (by assumption) (by assumption) | exact (pm_neOA (G := G) (by assumption) (by assumption)).symm | exact pm_neN (G := G) (by assumption) (by assumption) | exact (pm_neN (G := G) (by assumption) (by assumption)).symm) ?_; first | assumption | exact pm_up_eq | (refine pm_up_ne (by first | assumption | (apply Ne.symm; assumption) | exact pm_neK (G := G) (by assumption) (by assumption) (by omega) | exact pm_neOA (G := G) (by assumption) (by assumption) | exact (pm_neOA (G := G) (by assumption) (by assumption)).symm | exact pm_neN (G := G) (by assumption) (by assumption) | exact (pm_neN (G := G) (by assumption) (by assumption)).symm) ?_; first | assumption | exact pm_up_eq)))))) (c_TT_least c1 c6 c12 l12) (by omega) (Nat.le_of_ble_eq_true rfl) (by omega) (by omega) ?_
  rintro _ _ ⟨rfl, rfl⟩
  refine ev_aload_n d_Law_law_546 rfl rfl ?_
  refine ev_aload_n d_Law_law_547 rfl rfl ?_
  refine ev_iload d_Law_law_548 rfl ?_
  refine ev_iconst (v := 1) d_Law_law_550 (by decide) ?_
  refine ev_iadd d_Law_law_551 ?_
  refine ev_sld d_Law_law_552 (by assumption) ?_
  refine ev_callV1 d_Law_law_553 ck_Mo_least ml_Law_78 im_Mo_least se_Mo_least rfl hmo.1 (c_Mo_least (f0 := f0) (td := fun i => (lN (zTk z i), zTD z i)) p1 p2 m10 m5 (fun j hj => rfl) hmo) (by omega) (Nat.le_of_ble_eq_true rfl) (by omega) (by omega) ?_
  rintro _ G1 ⟨rfl, g2⟩
  rw [← hf0]
  exact ev_icmp_eq 668 d_Law_law_556 (by decide) (fun _ => kk _ _ _ _ (lw_q hc hp hm ho g2) (by omega) (by omega)) (fun z => absurd rfl z)
set_option maxHeartbeats 1000000 in
theorem lw_shorter (hc : lc_R X G a sg0 sc pl an p0 tq rc ka va kv tl sl le ln n told wl se sf lf tf D ta sa sna z kf vf td bg) (hp : lp_R sc p0 rc ln se sf lf D z td) (hmo : mo_at G mo A I J M W G) (hm : lm_R c sc p0 rc n told wl se sf D z kf vf td bg av at' ax I J M W) (ho : G out = some (190, .inl (1, 1, .inr (.inl of)))) (hk : kb + 4 * sc + 20 ≤ mc) (hn : nb + 1829 * sc + 7500 ≤ ms)  (kk : lw_K l X a mo out A i mc ms Q kb nb sc) : ev_W l X m_Law_law 40 mc ms Q kb nb 618 (lw_ls X a mo out i) [] G := by
  obtain ⟨c1, c2, c3, c4, c5, c6, c7, c8, c9, c10, c11, c12⟩ := id hc
  obtain ⟨p1, p2, p3, p4, p5, p6, p7, p8, p9, p10, p11, p12⟩ := id hp
  obtain ⟨m1, m2, m3, m4, m5, m6, m7, m8, m9, m10, m11, m12, m13, m14, m15, m16⟩ := id hm
  have t12 := hp.t12
  refine ev_aload_n d_Law_law_618 rfl rfl ?_
  refine ev_callV0 d_Law_law_619 ck_TT_shorter ml_Law_84 im_TT_shorter se_TT_shorter rfl (by first | assumption | exact pm_up_eq | (refine pm_up_ne (by first | assumption | (apply Ne.symm; assumption) | exact pm_neK (G := G) (by assumption) (by assumption) (by omega) | exact pm_neOA (G := G) (by assumption) (by assumption) | exact (pm_neOA (G := G) (by assumption) (by assumption)).symm | exact pm_neN (G := G) (by assumption) (by assumption) | exact (pm_neN (G := G) (by assumption) (by assumption)).symm) ?_; first | assumption | exact pm_up_eq | (refine pm_up_ne (by first | assumption | (apply Ne.symm; assumption) | exact pm_neK (G := G) (by assumption) (by assumption) (by omega) | exact pm_neOA (G := G) (by assumption) (by assumption) | exact (pm_neOA (G := G) (by assumption) (by assumption)).symm | exact pm_neN (G := G) (by assumption) (by assumption) | exact (pm_neN (G := G) (by assumption) (by assumption)).symm) ?_; first | assumption | exact pm_up_eq | (refine pm_up_ne (by first | assumption | (apply Ne.symm; assumption) | exact pm_neK (G := G) (by assumption) (by assumption) (by omega) | exact pm_neOA (G := G) (by assumption) (by assumption) | exact (pm_neOA (G := G) (by assumption) (by assumption)).symm | exact pm_neN (G := G) (by assumption) (by assumption) | exact (pm_neN (G := G) (by assumption) (by assumption)).symm) ?_; first | assumption | exact pm_up_eq | (refine pm_up_ne (by first | assumption | (apply Ne.symm; assumption) | exact pm_neK (G := G) (by assumption) (by assumption) (by omega) | exact pm_neOA (G := G) (by assumption) (by assumption) | exact (pm_neOA (G := G) (by assumption) (by assumption)).symm | exact pm_neN (G := G) (by assumption) (by assumption) | exact (pm_neN (G := G) (by assumption) (by assumption)).symm) ?_; first | assumption | exact pm_up_eq | (refine pm_up_ne (by first | assumption | (apply Ne.symm; assumption) | exact pm_neK (G := G) (by assumption) (by assumption) (by omega) | exact pm_neOA (G := G) (by assumption) (by assumption) | exact (pm_neOA (G := G) (by assumption) (by assumption)).symm | exact pm_neN (G := G) (by assumption) (by assumption) | exact (pm_neN (G := G) (by assumption) (by assumption)).symm) ?_; first | assumption | exact pm_up_eq)))))) (c_TT_shorter c1 c3 c4) (by omega) (Nat.le_of_ble_eq_true rfl) (by omega) (by omega) ?_
  rintro _ _ ⟨rfl, rfl⟩
  refine ev_aload_n d_Law_law_622 rfl rfl ?_
  refine ev_callV0 d_Law_law_623 ck_Mo_shorter ml_Law_87 im_Mo_shorter se_Mo_shorter rfl hmo.1 (c_Mo_shorter (n := (D (rc - 1)).1) (L := (D (rc - 1)).2.2.1) hmo m7 p9 (fun h => (m15 (rc - 1) (by omega)).2.1) (fun h => ⟨(m16 h).2.2.2, (p12 (rc - 1) (by omega)).2.2⟩)) (by omega) (Nat.le_of_ble_eq_true rfl) (by omega) (by omega) ?_
  rintro _ G1 ⟨rfl, g2⟩
  skip
  exact ev_icmp_eq 668 d_Law_law_626 (by decide) (fun _ => kk _ _ _ _ (lw_q hc hp hm ho g2) (by omega) (by omega)) (fun z => absurd rfl z)
set_option maxHeartbeats 1000000 in
theorem lw_cases (hc : lc_R X G a sg0 sc pl an p0 tq rc ka va kv tl sl le ln n told wl se sf lf tf D ta sa sna z kf vf td bg) (hp : lp_R sc p0 rc ln se sf lf D z td) (hmo : mo_at G mo A I J M W G) (hm : lm_R c sc p0 rc n told wl se sf D z kf vf td bg av at' ax I J M W) (ho : G out = some (190, .inl (1, 1, .inr (.inl of)))) (hk : kb + 4 * sc + 20 ≤ mc) (hn : nb + 1829 * sc + 7500 ≤ ms) (h1 : vp_in (i + 1) (X.2.2.2.1 39)) (h2 : vp_in (i + 2) (X.2.2.2.1 39)) (kk : lw_K l X a mo out A i mc ms Q kb nb sc) : ev_W l X m_Law_law 40 mc ms Q kb nb 631 (lw_ls X a mo out i) [] G := by
  obtain ⟨c1, c2, c3, c4, c5, c6, c7, c8, c9, c10, c11, c12⟩ := id hc
  obtain ⟨p1, p2, p3, p4, p5, p6, p7, p8, p9, p10, p11, p12⟩ := id hp
  obtain ⟨m1, m2, m3, m4, m5, m6, m7, m8, m9, m10, m11, m12, m13, m14, m15, m16⟩ := id hm
  have t12 := hp.t12
  refine ev_aload_n d_Law_law_631 rfl rfl ?_
  refine ev_aload_n d_Law_law_632 rfl rfl ?_
  refine ev_iload d_Law_law_633 rfl ?_
  refine ev_iconst (v := 1) d_Law_law_635 (by decide) ?_
  refine ev_iadd d_Law_law_636 ?_
  refine ev_sld d_Law_law_637 (by assumption) ?_
  refine ev_aload_n d_Law_law_638 rfl rfl ?_
  refine ev_iload d_Law_law_639 rfl ?_
  refine ev_iconst (v := 2) d_Law_law_641 (by decide) ?_
  refine ev_iadd d_Law_law_642 ?_
  refine ev_sld d_Law_law_643 (by assumption) ?_
  refine ev_callV2 d_Law_law_644 ck_TT_cases ml_Law_88 im_TT_cases se_TT_cases rfl (by first | assumption | exact pm_up_eq | (refine pm_up_ne (by first | assumption | (apply Ne.symm; assumption) | exact pm_neK (G := G) (by assumption) (by assumption) (by omega) | exact pm_neOA (G := G) (by assumption) (by assumption) | exact (pm_neOA (G := G) (by assumption) (by assumption)).symm | exact pm_neN (G := G) (by assumption) (by assumption) | exact (pm_neN (G := G) (by assumption) (by assumption)).symm) ?_; first | assumption | exact pm_up_eq | (refine pm_up_ne (by first | assumption | (apply Ne.symm; assumption) | exact pm_neK (G := G) (by assumption) (by assumption) (by omega) | exact pm_neOA (G := G) (by assumption) (by assumption) | exact (pm_neOA (G := G) (by assumption) (by assumption)).symm | exact pm_neN (G := G) (by assumption) (by assumption) | exact (pm_neN (G := G) (by assumption) (by assumption)).symm) ?_; first | assumption | exact pm_up_eq | (refine pm_up_ne (by first | assumption | (apply Ne.symm; assumption) | exact pm_neK (G := G) (by assumption) (by assumption) (by omega) | exact pm_neOA (G := G) (by assumption) (by assumption) | exact (pm_neOA (G := G) (by assumption) (by assumption)).symm | exact pm_neN (G := G) (by assumption) (by assumption) | exact (pm_neN (G := G) (by assumption) (by assumption)).symm) ?_; first | assumption | exact pm_up_eq | (refine pm_up_ne (by first | assumption | (apply Ne.symm; assumption) | exact pm_neK (G := G) (by assumption) (by assumption) (by omega) | exact pm_neOA (G := G) (by assumption) (by assumption) | exact (pm_neOA (G := G) (by assumption) (by assumption)).symm | exact pm_neN (G := G) (by assumption) (by assumption) | exact (pm_neN (G := G) (by assumption) (by assumption)).symm) ?_; first | assumption | exact pm_up_eq | (refine pm_up_ne (by first | assumption | (apply Ne.symm; assumption) | exact pm_neK (G := G) (by assumption) (by assumption) (by omega) | exact pm_neOA (G := G) (by assumption) (by assumption) | exact (pm_neOA (G := G) (by assumption) (by assumption)).symm | exact pm_neN (G := G) (by assumption) (by assumption) | exact (pm_neN (G := G) (by assumption) (by assumption)).symm) ?_; first | assumption | exact pm_up_eq)))))) (c_TT_cases c1 c3 c4) (by omega) (Nat.le_of_ble_eq_true rfl) (by omega) (by omega) ?_
  rintro _ _ ⟨rfl, rfl⟩
  refine ev_aload_n d_Law_law_647 rfl rfl ?_
  refine ev_aload_n d_Law_law_648 rfl rfl ?_
  refine ev_iload d_Law_law_649 rfl ?_
  refine ev_iconst (v := 1) d_Law_law_651 (by decide) ?_
  refine ev_iadd d_Law_law_652 ?_
  refine ev_sld d_Law_law_653 (by assumption) ?_
  refine ev_aload_n d_Law_law_654 rfl rfl ?_
  refine ev_iload d_Law_law_655 rfl ?_
  refine ev_iconst (v := 2) d_Law_law_657 (by decide) ?_
  refine ev_iadd d_Law_law_658 ?_
  refine ev_sld d_Law_law_659 (by assumption) ?_
  refine ev_callV2 d_Law_law_660 ck_Mo_cases ml_Law_91 im_Mo_cases se_Mo_cases rfl hmo.1 (c_Mo_cases (n := if rc = 0 then 0 else (D (rc - 1)).1) (La := (D (rc - 1)).2.2.2.1) (Ta := (D (rc - 1)).2.2.2.2.1) (Va := (D (rc - 1)).2.2.2.2.2.1) hmo m7 p9 (by by_cases h : rc = 0; rw [if_pos h]; omega; rw [if_neg h]; exact (p12 (rc - 1) (by omega)).1) (fun h => by rw [if_neg h]; exact (m15 (rc - 1) (by omega)).2.1) (fun h j hj => by rw [if_neg h] at hj; exact (m15 (rc - 1) (by omega)).2.2 j hj)) (by omega) (Nat.le_of_ble_eq_true rfl) (by omega) (by omega) ?_
  rintro _ G1 ⟨rfl, g2⟩
  have e : (if rc = 0 ∨ sX X (i + 1) < 0 ∨ nI (D (rc - 1)).1 ≤ sX X (i + 1) then (-1 : Int32) else if sX X (i + 2) < 0 ∨ 2 < sX X (i + 2) then -2 else if sX X (i + 2) = 0 then (D (rc - 1)).2.2.2.1 (sX X (i + 1)).toNatClampNeg else if sX X (i + 2) = 1 then (D (rc - 1)).2.2.2.2.1 (sX X (i + 1)).toNatClampNeg else (D (rc - 1)).2.2.2.2.2.1 (sX X (i + 1)).toNatClampNeg) = (if rc = 0 ∨ sX X (i + 1) < 0 ∨ nI (if rc = 0 then 0 else (D (rc - 1)).1) ≤ sX X (i + 1) then (-1 : Int32) else if sX X (i + 2) < 0 ∨ 2 < sX X (i + 2) then -2 else if sX X (i + 2) = 0 then (D (rc - 1)).2.2.2.1 (sX X (i + 1)).toNatClampNeg else if sX X (i + 2) = 1 then (D (rc - 1)).2.2.2.2.1 (sX X (i + 1)).toNatClampNeg else (D (rc - 1)).2.2.2.2.2.1 (sX X (i + 1)).toNatClampNeg) := by
    by_cases h : rc = 0
    · rw [if_pos (Or.inl h), if_pos (Or.inl h)]
    · rw [if_neg h]
  rw [← e]
  exact ev_icmp_eq 668 d_Law_law_663 (by decide) (fun _ => kk _ _ _ _ (lw_q hc hp hm ho g2) (by omega) (by omega)) (fun z => absurd rfl z)
end LQ
