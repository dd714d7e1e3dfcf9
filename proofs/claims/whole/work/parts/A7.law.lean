/-! THE LAW: its loop, its start -/
theorem an_15 (x : Int32) : ∃ j, j < 16 ∧ x &&& 15 = nI j := by
  refine ⟨(x &&& 15).toBitVec.toNat, ?_, ?_⟩
  · have e : (x &&& 15).toBitVec = x.toBitVec &&& 15#32 := rfl
    rw [e, BitVec.toNat_and]
    exact Nat.and_lt_two_pow (n := 4) _ (by decide)
  · apply Int32.toBitVec.inj
    show _ = BitVec.ofNat 32 _
    rw [BitVec.ofNat_toNat, BitVec.setWidth_eq]
theorem nI_add6 {a b : Nat} : nI a + nI b = nI (a + b) := by
  apply Int32.toBitVec.inj
  show BitVec.ofNat 32 a + BitVec.ofNat 32 b = BitVec.ofNat 32 (a + b)
  rw [BitVec.ofNat_add]
theorem nI_le6 {a L : Nat} (ha : a ≤ 3072) (hL : L ≤ 3072) : nI L - 6 < nI a ↔ L < a + 6 := by
  rw [Int32.lt_iff_toInt_lt, Int32.toInt_sub, nI_toInt (by omega), nI_toInt (by omega)]
  have e6 : (6 : Int32).toInt = 6 := by decide
  rw [e6, Int.bmod_eq_of_le (by omega) (by omega)]
  omega
section LL
variable {l : Launch} {X : pm_X} {a mo out mc ms K0 N0 : Nat} {A : Nat → Nat} {Q : Option Value → pm_G → Prop}
set_option maxHeartbeats 2000000 in
theorem lw_loop (htr : l.stackTraces = false) (hL : X.2.2.2.1 39 ≤ 3072) (hQ : ∀ G, Q (some (.int 1)) G) (hK : K0 + 10300 ≤ mc) (hN : N0 + 3900000 ≤ ms) : ∀ (r m : Nat), m + r = 512 → 6 * m ≤ X.2.2.2.1 39 → ∀ k n sc G, lw_R X a mo out sc A G → k + 4 * sc ≤ K0 + 20 * m → n + 1829 * sc ≤ N0 + 7500 * m → ev_W l X m_Law_law 40 mc ms Q k n 23 (lw_ls X a mo out (nI (6 * m))) [] G := by
  intro r
  induction r with
  | zero =>
    intro m hm h6 k n sc G _ _ _
    refine ev_iload d_Law_law_23 rfl ?_
    refine ev_aload_n d_Law_law_25 rfl rfl ?_
    refine ev_slen d_Law_law_26 ?_
    refine ev_bipush (v := 6) d_Law_law_27 (by decide) ?_
    refine ev_isub d_Law_law_29 ?_
    refine ev_icmp_gt 674 d_Law_law_30 (by decide) (fun _ => ?_) (fun h => absurd ((nI_le6 (by omega) hL).mpr (by omega)) h)
    refine ev_iconst (v := 1) d_Law_law_674 (by decide) ?_
    exact ev_zret d_Law_law_675 rfl rfl (hQ _)
  | succ r ih =>
    intro m hm h6 k n sc G hR hk hn
    refine ev_iload d_Law_law_23 rfl ?_
    refine ev_aload_n d_Law_law_25 rfl rfl ?_
    refine ev_slen d_Law_law_26 ?_
    refine ev_bipush (v := 6) d_Law_law_27 (by decide) ?_
    refine ev_isub d_Law_law_29 ?_
    refine ev_icmp_gt 674 d_Law_law_30 (by decide) (fun _ => ?_) (fun h => ?_)
    · refine ev_iconst (v := 1) d_Law_law_674 (by decide) ?_
      exact ev_zret d_Law_law_675 rfl rfl (hQ _)
    · have h7 : ¬ X.2.2.2.1 39 < 6 * m + 6 := fun z => h ((nI_le6 (by omega) hL).mpr z)
      have hin : ∀ j, j < 6 → vp_in (nI (6 * m + j)) (X.2.2.2.1 39) := fun j hj => vp_in_nI (by omega) (by omega)
      have h0 : vp_in (nI (6 * m)) (X.2.2.2.1 39) := hin 0 (by omega)
      have h1 : vp_in (nI (6 * m) + 1) (X.2.2.2.1 39) := by rw [show (1 : Int32) = nI 1 from rfl, nI_add6]; exact hin 1 (by omega)
      have h2 : vp_in (nI (6 * m) + 2) (X.2.2.2.1 39) := by rw [show (2 : Int32) = nI 2 from rfl, nI_add6]; exact hin 2 (by omega)
      have h3 : vp_in (nI (6 * m) + 3) (X.2.2.2.1 39) := by rw [show (3 : Int32) = nI 3 from rfl, nI_add6]; exact hin 3 (by omega)
      have h4 : vp_in (nI (6 * m) + 4) (X.2.2.2.1 39) := by rw [show (4 : Int32) = nI 4 from rfl, nI_add6]; exact hin 4 (by omega)
      have h5 : vp_in (nI (6 * m) + 5) (X.2.2.2.1 39) := by rw [show (5 : Int32) = nI 5 from rfl, nI_add6]; exact hin 5 (by omega)
      have kk : lw_K l X a mo out A (nI (6 * m)) mc ms Q k n sc := by
        intro k' n' sc' G' hR' hk' hn'
        refine ev_iinc (v := nI (6 * (m + 1))) d_Law_law_668 rfl (by rw [show Int32.ofInt 6 = nI 6 from rfl, nI_add6, show 6 * m + 6 = 6 * (m + 1) by omega]) (by decide) ?_
        refine ev_goto 23 d_Law_law_671 (by decide) ?_
        have b1 : k' + 4 * sc' ≤ K0 + 20 * (m + 1) := by rw [Nat.mul_succ]; omega
        have b2 : n' + 1829 * sc' ≤ N0 + 7500 * (m + 1) := Nat.le_trans hn' (Nat.le_trans (Nat.add_le_add_right hn 7500) (Nat.le_of_eq (by rw [Nat.mul_succ, Nat.add_assoc])))
        exact ih (m + 1) (by omega) (by omega) k' n' sc' G' hR' b1 b2
      refine ev_aload_n d_Law_law_33 rfl rfl ?_
      refine ev_iload d_Law_law_34 rfl ?_
      refine ev_sld d_Law_law_36 (by with_reducible assumption) ?_
      refine ev_bipush (v := 15) d_Law_law_37 (by decide) ?_
      refine ev_iand d_Law_law_39 ?_
      obtain ⟨j, hj, e⟩ := an_15 (sX X (nI (6 * m)))
      rw [e]
      have bk : k + 4 * sc + 20 ≤ mc := by omega
      have bn : n + 1829 * sc + 7500 ≤ ms := by omega
      have kk0 := kk k n sc G hR (by omega) (by omega)
      obtain ⟨sg0, pl, an, p0, tq, rc, ka, va, kv, tl, sl, le, ln, nn, told, wl, se, sf, lf, tf, D, ta, sa, sna, z, kf, vf, td, bg, c, av, at', ax, I, J, M, W, of, hc, hp, hmo, hmm, ho⟩ := hR
      have hj16 : j = 0 ∨ j = 1 ∨ j = 2 ∨ j = 3 ∨ j = 4 ∨ j = 5 ∨ j = 6 ∨ j = 7 ∨ j = 8 ∨ j = 9 ∨ j = 10 ∨ j = 11 ∨ j = 12 ∨ j = 13 ∨ j = 14 ∨ j = 15 := by omega
      rcases hj16 with rfl | rfl | rfl | rfl | rfl | rfl | rfl | rfl | rfl | rfl | rfl | rfl | rfl | rfl | rfl | rfl
      · exact ev_tableIn 116 d_Law_law_40 (by decide) (by decide) rfl (by decide) (lw_sign hc hp hmo hmm ho bk bn h1 kk)
      · exact ev_tableIn 139 d_Law_law_40 (by decide) (by decide) rfl (by decide) (lw_read htr hc hp hmo hmm ho bk bn kk)
      · exact ev_tableIn 183 d_Law_law_40 (by decide) (by decide) rfl (by decide) (lw_wrong hc hp hmo hmm ho bk bn kk)
      · exact ev_tableIn 196 d_Law_law_40 (by decide) (by decide) rfl (by decide) (lw_answer hc hp hmo hmm ho bk bn h1 h2 h3 h4 h5 kk)
      · exact ev_tableIn 309 d_Law_law_40 (by decide) (by decide) rfl (by decide) (lw_run hc hp hmo hmm ho bk bn kk)
      · exact ev_tableIn 322 d_Law_law_40 (by decide) (by decide) rfl (by decide) (lw_verdict hc hp hmo hmm ho bk bn h1 h2 kk)
      · exact ev_tableIn 359 d_Law_law_40 (by decide) (by decide) rfl (by decide) (lw_ended hc hp hmo hmm ho bk bn h1 kk)
      · exact ev_tableIn 384 d_Law_law_40 (by decide) (by decide) rfl (by decide) (lw_plant hc hp hmo hmm ho bk bn h1 h2 kk)
      · exact ev_tableIn 437 d_Law_law_40 (by decide) (by decide) rfl (by decide) (lw_undone hc hp hmo hmm ho bk bn h1 kk)
      · exact ev_tableIn 462 d_Law_law_40 (by decide) (by decide) rfl (by decide) (lw_differ hc hp hmo hmm ho bk bn h1 h2 kk)
      · exact ev_tableIn 499 d_Law_law_40 (by decide) (by decide) rfl (by decide) (lw_cover hc hp hmo hmm ho bk bn h1 h2 kk)
      · exact ev_tableIn 536 d_Law_law_40 (by decide) (by decide) rfl (by decide) (lw_least hc hp hmo hmm ho bk bn h1 kk)
      · exact ev_tableIn 561 d_Law_law_40 (by decide) (by decide) rfl (by decide) (lw_seed hc hp hmo hmm ho bk bn h1 h2 kk)
      · exact ev_tableIn 618 d_Law_law_40 (by decide) (by decide) rfl (by decide) (lw_shorter hc hp hmo hmm ho bk bn kk)
      · exact ev_tableIn 631 d_Law_law_40 (by decide) (by decide) rfl (by decide) (lw_cases hc hp hmo hmm ho bk bn h1 h2 kk)
      · exact ev_tableOut 668 d_Law_law_40 (by decide) (by decide) kk0
set_option maxHeartbeats 2000000 in
theorem lw_body (htr : l.stackTraces = false) (hL : X.2.2.2.1 39 ≤ 3072) (hQ : ∀ G, Q (some (.int 1)) G) : ev_W l X m_Law_law 40 601024 7293034 Q 0 0 0 [(0, .ref (lw_b X))] [] (fun _ => none) := by
  generalize hG0 : (fun _ => none : pm_G) = G
  clear hG0
  refine ev_new 1 d_Law_law_0 no_Law_8 (by omega) (by omega) (fun q_0 hq_0 => ?_)
  refine ev_dup d_Law_law_3 rfl ?_
  refine ev_callI0 d_Law_law_4 ck_TT_init ml_Law_15 im_TT_init rfl rfl (c_TT_init pm_up_eq) (by omega) (Nat.le_of_ble_eq_true rfl) (by omega) (by omega) ?_
  rintro _ G1 ⟨rfl, f1, sg, pl, an, tq, ka, va, kv, tl, sl, le, b1, b2, b3, b4, b5, b6, b7, b8, b9⟩
  refine ev_astore_n d_Law_law_7 rfl (by decide) ?_
  refine ev_new 120 d_Law_law_8 no_Law_16 (by omega) (by omega) (fun q_8 hq_8 => ?_)
  refine ev_dup d_Law_law_11 rfl ?_
  have fn := pm_fr.new (S := mo_C) (e := (120, .inr (9, mi_V (fun _ => none) 0))) hq_8
  refine ev_callI0 d_Law_law_12 ck_Mo_init ml_Law_18 im_Mo_init rfl rfl (c_Mo_init (by exact pm_up_eq)) (by omega) (Nat.le_of_ble_eq_true rfl) (by omega) (by omega) ?_
  rintro _ G2 ⟨rfl, f2, A', g2⟩
  have f3 := fn.tr f2
  have t0 : zTn pz_0 ≤ 12 := by decide
  have hc0 : lc_R X G1 q_0 sg 0 pl an 0 tq 0 ka va kv tl sl le 0 0 0 0 1 (fun _ => 0) (fun _ => 0) (fun _ => none) (fun _ => (0, 0, 0, (fun _ => 0), (fun _ => 0), (fun _ => 0), (fun _ => 0))) (fun _ => 0) (fun _ => 0) (fun _ => 0) pz_0 (fun _ => 0) (fun _ => 0) (fun _ _ => 0) (fun _ => 0) :=
    ⟨b1, b2, b3, ⟨by omega, fun j hj => absurd hj (Nat.not_lt_zero _), fun j y _ hy => by cases hy⟩, b4, b5, b7, fun j hj => absurd hj (Nat.not_lt_zero _), b8, fun j hj => absurd hj (Nat.not_lt_zero _), fun j hj => absurd hj (Nat.not_lt_zero _), b9⟩
  have hc1 := hc0.mo t0 f3
  have hp1 : lp_R 0 0 0 0 1 (fun _ => 0) (fun _ => 0) (fun _ => (0, 0, 0, (fun _ => 0), (fun _ => 0), (fun _ => 0), (fun _ => 0))) pz_0 (fun _ _ => 0) := ⟨pz_0_ok, pz_m_0, rfl, by omega, fun j hj => absurd hj (Nat.not_lt_zero _), ⟨1, by decide, rfl⟩, by omega, by omega, by omega, fun j hj => absurd hj (Nat.not_lt_zero _), ⟨fun _ => 0, rfl⟩, fun j hj => absurd hj (Nat.not_lt_zero _)⟩
  have hm1 : lm_R 0 0 0 0 0 0 0 1 (fun _ => 0) (fun _ => (0, 0, 0, (fun _ => 0), (fun _ => 0), (fun _ => 0), (fun _ => 0))) pz_0 (fun _ => 0) (fun _ => 0) (fun _ _ => 0) (fun _ => 0) (fun _ => 0) (fun _ => 0) (fun _ => 0) (fun _ => 0) (va_up (fun _ => 0) 43 1) (fun _ _ => 0) (fun _ _ => 0) := ⟨rfl, fun j hj => absurd hj (Nat.not_lt_zero _), rfl, rfl, rfl, rfl, rfl, rfl, fun f _ h2 => fb_0 f h2, ⟨by omega, fun j hj => absurd hj (Nat.not_lt_zero _), fun j hj => absurd hj (Nat.not_lt_zero _), fun j hj => absurd hj (Nat.not_lt_zero _), fun h => absurd h (Nat.not_lt_zero _)⟩, ⟨rfl, fun j hj => absurd hj (Nat.not_lt_zero _)⟩, ⟨by omega, fun j hj => absurd hj (Nat.not_lt_zero _), fun j k _ hj => absurd hj (Nat.not_lt_zero _), fun q x => ⟨fun ⟨j, hj, _⟩ => absurd hj (Nat.not_lt_zero _), fun ⟨j, hj, _⟩ => absurd hj (Nat.not_lt_zero _)⟩⟩, fun j hj => absurd hj (Nat.not_lt_zero _), fun j hj => absurd hj (Nat.not_lt_zero _), fun j hj => absurd hj (Nat.not_lt_zero _), fun h => absurd rfl h⟩
  refine ev_astore_n d_Law_law_15 rfl (by decide) ?_
  refine ev_iconst (v := 1) d_Law_law_16 (by decide) ?_
  refine ev_newa (190) (t := 1) (N := 1) (a0 := .inr (.inl (fun _ => 0))) d_Law_law_17 rfl rfl hw_69 (fun _ => rfl) (by decide) (by decide) (by decide) (by omega) (by omega) (fun q_17 hq_17 => ?_)
  have f4 := pm_fr.new (S := fun c => c = 190) (e := (190, .inl (1, 1, .inr (.inl (fun _ => 0))))) hq_17
  have hc2 := hc1.o190 t0 f4
  have hmo2 := g2.cl f4 (fun c h => by unfold mo_C at h; omega)
  refine ev_astore_n d_Law_law_19 rfl (by decide) ?_
  refine ev_iconst (v := 0) d_Law_law_20 (by decide) ?_
  refine ev_istore d_Law_law_21 (by decide) ?_
  refine lw_loop (K0 := 60) (N0 := 76000) htr hL hQ (by omega) (by omega) 512 0 rfl (Nat.zero_le _) _ _ 0 _ ⟨_, _, _, _, _, _, _, _, _, _, _, _, _, _, _, _, _, _, _, _, _, _, _, _, _, _, _, _, _, _, _, _, _, _, _, _, _, _, hc2, hp1, hmo2, hm1, pm_up_eq⟩ (by omega) (by omega)
end LL
