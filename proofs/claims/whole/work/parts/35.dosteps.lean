/-! RUNNER.doSteps -/
section D5
variable {l : Launch} {X : pm_X} {κ r te ti pl an tr u : Nat} {dk : Int64} {d U : Nat → Int32} {p : Int32} {sn ka va n told : Nat} {sa sna : Nat → Nat} {sd : Nat → Nat → Int32} {kf : Nat → Nat} {vf : Nat → Int32} {kv vn tl sl le ln : Nat} {nl : Nat → Nat} {nf : Nat → Nat → Int32} {bh lv : Nat → Nat} {en : Nat}
set_option maxHeartbeats 2000000 in
theorem c_Run_doSteps1 (hp : ps_ok sn sd nl bh lv) {E e dep : Nat} (hE : e + 2 ≤ E) (he : 4 ≤ e) (hdep : dep ≤ 8) (hblk : ∀ b, b < sn → (sd b 0 = 6 ∨ sd b 0 = 7) → dep ≤ lv b → hS l X κ r te ti dk d pl an tr p u U sn sa sna sd ka va n told kf vf kv vn tl sl le ln nl nf bh lv en e (dep + 1)) : hS l X κ r te ti dk d pl an tr p u U sn sa sna sd ka va n told kf vf kv vn tl sl le ln nl nf bh lv en E dep := by
  intro fr to K G tm s c0 hft hto hrange hK hKe hrw hc0
  have hpk := hp
  obtain ⟨hsn, hW, hB, hT6, hT7, hN⟩ := hp
  -- the loop over the places
  have loop : ∀ (m pl2 : Nat) (G1 : pm_G) (s1 : rs_T), pl2 ≤ to → to - pl2 < m → fr ≤ pl2 → pm_fr (rs_D κ ti) G G1 → rw_at X κ r te ti dk d pl an tr p u U sn sa sna sd ka va n told kf vf kv vn tl sl le ln nl nf G1 tm s1 → gr en n kf vf sd nl nf bh c0 (K, pl2, s1, 0) →
      ev_W l X m_Run_doSteps E 0 0 (fun y G' => ∃ s' tm', pm_fr (rs_D κ ti) G G' ∧ rw_at X κ r te ti dk d pl an tr p u U sn sa sna sd ka va n told kf vf kv vn tl sl le ln nl nf G' tm' s' ∧ ((y = some (.int 1) ∧ tm' = tm ∧ gr en n kf vf sd nl nf bh c0 (K, to, s', 0)) ∨ (y = some (.int 0) ∧ ∃ K2 p2 oc, ((oc = 1 ∧ tm' = tm) ∨ (oc = 2 ∧ tm' = 1)) ∧ gr en n kf vf sd nl nf bh c0 (K2, p2, s', oc)))) 0 0 28 [(0, .ref r), (1, .ref te), (2, .int (nI fr)), (3, .int (nI to)), (4, .int (nI dep)), (5, .int (nI to)), (6, .int (nI pl2))] [] G1 := by
    intro m
    induction m with
    | zero => intro pl2 G1 s1 h1 h2; omega
    | succ m ihm =>
      intro pl2 G1 s1 h1 h2 h3 hf hw1 hg1
      refine ev_iload d_Run_doSteps_28 rfl ?_
      refine ev_iload d_Run_doSteps_30 rfl ?_
      refine ev_icmp_ge 141 d_Run_doSteps_32 (by decide) (fun hc => ?_) (fun hc => ?_)
      · have e1 : pl2 = to := by
          rcases Nat.lt_or_ge pl2 to with q | q
          · exact absurd hc (nI_ge q (by omega))
          · omega
        subst e1
        refine ev_iconst (v := 1) d_Run_doSteps_141 (by decide) ?_
        exact ev_zret d_Run_doSteps_142 rfl rfl (⟨s1, tm, hf, hw1, Or.inl ⟨rfl, rfl, hg1⟩⟩)
      · have hlt : pl2 < to := by
          rcases Nat.lt_or_ge pl2 to with q | q
          · exact q
          · exact absurd (nI_le q (by omega)) hc
        have hps : pl2 < sn := by omega
        obtain ⟨e7, hb1, hb2⟩ := hB pl2 hps
        obtain ⟨hl1, hl2⟩ := hrange pl2 h3 hlt
        obtain ⟨k1, k2, k3, k4, k5, k6, k7⟩ := id hw1
        obtain ⟨bb1, bb2, bb3, bb4, bb5, ⟨st1, sv1, tf1, hr1, -⟩, -⟩ := id k1
        obtain ⟨bL, cL, mL, fL, hL, -⟩ := id k5
        have hs1 : G1 (sa pl2) = some (200 + 2 * pl2, .inr (5, se_V (sna pl2) (upd (sd pl2) 8 (qG s1 pl2)))) := k2 pl2 hps
        have hmid : gs en n kf vf sd nl nf bh (K, pl2, s1, 0) = gs_at n kf vf sd nf bh K pl2 s1 := gs_mid (fun b tu K' hk => by have := hK b tu K' hk; omega) (fun z => by have := hKe z; omega)
        refine ev_aload_n d_Run_doSteps_35 rfl rfl ?_
        refine ev_get d_Run_doSteps_36 fo_Run_9 (by first | assumption | exact pm_up_eq | (refine pm_up_ne (by first | assumption | (apply Ne.symm; assumption) | exact pm_neK (G := G) (by assumption) (by assumption) (by omega) | exact pm_neOA (G := G) (by assumption) (by assumption) | exact (pm_neOA (G := G) (by assumption) (by assumption)).symm | exact pm_neN (G := G) (by assumption) (by assumption) | exact (pm_neN (G := G) (by assumption) (by assumption)).symm) ?_; first | assumption | exact pm_up_eq | (refine pm_up_ne (by first | assumption | (apply Ne.symm; assumption) | exact pm_neK (G := G) (by assumption) (by assumption) (by omega) | exact pm_neOA (G := G) (by assumption) (by assumption) | exact (pm_neOA (G := G) (by assumption) (by assumption)).symm | exact pm_neN (G := G) (by assumption) (by assumption) | exact (pm_neN (G := G) (by assumption) (by assumption)).symm) ?_; first | assumption | exact pm_up_eq | (refine pm_up_ne (by first | assumption | (apply Ne.symm; assumption) | exact pm_neK (G := G) (by assumption) (by assumption) (by omega) | exact pm_neOA (G := G) (by assumption) (by assumption) | exact (pm_neOA (G := G) (by assumption) (by assumption)).symm | exact pm_neN (G := G) (by assumption) (by assumption) | exact (pm_neN (G := G) (by assumption) (by assumption)).symm) ?_; first | assumption | exact pm_up_eq | (refine pm_up_ne (by first | assumption | (apply Ne.symm; assumption) | exact pm_neK (G := G) (by assumption) (by assumption) (by omega) | exact pm_neOA (G := G) (by assumption) (by assumption) | exact (pm_neOA (G := G) (by assumption) (by assumption)).symm | exact pm_neN (G := G) (by assumption) (by assumption) | exact (pm_neN (G := G) (by assumption) (by assumption)).symm) ?_; first | assumption | exact pm_up_eq | (refine pm_up_ne (by first | assumption | (apply Ne.symm; assumption) | exact pm_neK (G := G) (by assumption) (by assumption) (by omega) | exact pm_neOA (G := G) (by assumption) (by assumption) | exact (pm_neOA (G := G) (by assumption) (by assumption)).symm | exact pm_neN (G := G) (by assumption) (by assumption) | exact (pm_neN (G := G) (by assumption) (by assumption)).symm) ?_; first | assumption | exact pm_up_eq)))))) rfl ?_
        refine ev_get d_Run_doSteps_39 fo_Run_72 (by first | assumption | exact pm_up_eq | (refine pm_up_ne (by first | assumption | (apply Ne.symm; assumption) | exact pm_neK (G := G) (by assumption) (by assumption) (by omega) | exact pm_neOA (G := G) (by assumption) (by assumption) | exact (pm_neOA (G := G) (by assumption) (by assumption)).symm | exact pm_neN (G := G) (by assumption) (by assumption) | exact (pm_neN (G := G) (by assumption) (by assumption)).symm) ?_; first | assumption | exact pm_up_eq | (refine pm_up_ne (by first | assumption | (apply Ne.symm; assumption) | exact pm_neK (G := G) (by assumption) (by assumption) (by omega) | exact pm_neOA (G := G) (by assumption) (by assumption) | exact (pm_neOA (G := G) (by assumption) (by assumption)).symm | exact pm_neN (G := G) (by assumption) (by assumption) | exact (pm_neN (G := G) (by assumption) (by assumption)).symm) ?_; first | assumption | exact pm_up_eq | (refine pm_up_ne (by first | assumption | (apply Ne.symm; assumption) | exact pm_neK (G := G) (by assumption) (by assumption) (by omega) | exact pm_neOA (G := G) (by assumption) (by assumption) | exact (pm_neOA (G := G) (by assumption) (by assumption)).symm | exact pm_neN (G := G) (by assumption) (by assumption) | exact (pm_neN (G := G) (by assumption) (by assumption)).symm) ?_; first | assumption | exact pm_up_eq | (refine pm_up_ne (by first | assumption | (apply Ne.symm; assumption) | exact pm_neK (G := G) (by assumption) (by assumption) (by omega) | exact pm_neOA (G := G) (by assumption) (by assumption) | exact (pm_neOA (G := G) (by assumption) (by assumption)).symm | exact pm_neN (G := G) (by assumption) (by assumption) | exact (pm_neN (G := G) (by assumption) (by assumption)).symm) ?_; first | assumption | exact pm_up_eq | (refine pm_up_ne (by first | assumption | (apply Ne.symm; assumption) | exact pm_neK (G := G) (by assumption) (by assumption) (by omega) | exact pm_neOA (G := G) (by assumption) (by assumption) | exact (pm_neOA (G := G) (by assumption) (by assumption)).symm | exact pm_neN (G := G) (by assumption) (by assumption) | exact (pm_neN (G := G) (by assumption) (by assumption)).symm) ?_; first | assumption | exact pm_up_eq)))))) rfl ?_
        refine ev_iload d_Run_doSteps_42 rfl ?_
        refine ev_callV1 d_Run_doSteps_44 ck_AL_get ml_Run_87 im_AL_get se_AL_get rfl (by first | assumption | exact pm_up_eq | (refine pm_up_ne (by first | assumption | (apply Ne.symm; assumption) | exact pm_neK (G := G) (by assumption) (by assumption) (by omega) | exact pm_neOA (G := G) (by assumption) (by assumption) | exact (pm_neOA (G := G) (by assumption) (by assumption)).symm | exact pm_neN (G := G) (by assumption) (by assumption) | exact (pm_neN (G := G) (by assumption) (by assumption)).symm) ?_; first | assumption | exact pm_up_eq | (refine pm_up_ne (by first | assumption | (apply Ne.symm; assumption) | exact pm_neK (G := G) (by assumption) (by assumption) (by omega) | exact pm_neOA (G := G) (by assumption) (by assumption) | exact (pm_neOA (G := G) (by assumption) (by assumption)).symm | exact pm_neN (G := G) (by assumption) (by assumption) | exact (pm_neN (G := G) (by assumption) (by assumption)).symm) ?_; first | assumption | exact pm_up_eq | (refine pm_up_ne (by first | assumption | (apply Ne.symm; assumption) | exact pm_neK (G := G) (by assumption) (by assumption) (by omega) | exact pm_neOA (G := G) (by assumption) (by assumption) | exact (pm_neOA (G := G) (by assumption) (by assumption)).symm | exact pm_neN (G := G) (by assumption) (by assumption) | exact (pm_neN (G := G) (by assumption) (by assumption)).symm) ?_; first | assumption | exact pm_up_eq | (refine pm_up_ne (by first | assumption | (apply Ne.symm; assumption) | exact pm_neK (G := G) (by assumption) (by assumption) (by omega) | exact pm_neOA (G := G) (by assumption) (by assumption) | exact (pm_neOA (G := G) (by assumption) (by assumption)).symm | exact pm_neN (G := G) (by assumption) (by assumption) | exact (pm_neN (G := G) (by assumption) (by assumption)).symm) ?_; first | assumption | exact pm_up_eq | (refine pm_up_ne (by first | assumption | (apply Ne.symm; assumption) | exact pm_neK (G := G) (by assumption) (by assumption) (by omega) | exact pm_neOA (G := G) (by assumption) (by assumption) | exact (pm_neOA (G := G) (by assumption) (by assumption)).symm | exact pm_neN (G := G) (by assumption) (by assumption) | exact (pm_neN (G := G) (by assumption) (by assumption)).symm) ?_; first | assumption | exact pm_up_eq)))))) (c_AL_get k5 hps) (by omega) (Nat.le_of_ble_eq_true rfl) (by omega) (by omega) ?_
        rintro _ _ ⟨rfl, rfl⟩
        refine ev_ccast d_Run_doSteps_47 (by first | assumption | exact pm_up_eq | (refine pm_up_ne (by first | assumption | (apply Ne.symm; assumption) | exact pm_neK (G := G) (by assumption) (by assumption) (by omega) | exact pm_neOA (G := G) (by assumption) (by assumption) | exact (pm_neOA (G := G) (by assumption) (by assumption)).symm | exact pm_neN (G := G) (by assumption) (by assumption) | exact (pm_neN (G := G) (by assumption) (by assumption)).symm) ?_; first | assumption | exact pm_up_eq | (refine pm_up_ne (by first | assumption | (apply Ne.symm; assumption) | exact pm_neK (G := G) (by assumption) (by assumption) (by omega) | exact pm_neOA (G := G) (by assumption) (by assumption) | exact (pm_neOA (G := G) (by assumption) (by assumption)).symm | exact pm_neN (G := G) (by assumption) (by assumption) | exact (pm_neN (G := G) (by assumption) (by assumption)).symm) ?_; first | assumption | exact pm_up_eq | (refine pm_up_ne (by first | assumption | (apply Ne.symm; assumption) | exact pm_neK (G := G) (by assumption) (by assumption) (by omega) | exact pm_neOA (G := G) (by assumption) (by assumption) | exact (pm_neOA (G := G) (by assumption) (by assumption)).symm | exact pm_neN (G := G) (by assumption) (by assumption) | exact (pm_neN (G := G) (by assumption) (by assumption)).symm) ?_; first | assumption | exact pm_up_eq | (refine pm_up_ne (by first | assumption | (apply Ne.symm; assumption) | exact pm_neK (G := G) (by assumption) (by assumption) (by omega) | exact pm_neOA (G := G) (by assumption) (by assumption) | exact (pm_neOA (G := G) (by assumption) (by assumption)).symm | exact pm_neN (G := G) (by assumption) (by assumption) | exact (pm_neN (G := G) (by assumption) (by assumption)).symm) ?_; first | assumption | exact pm_up_eq | (refine pm_up_ne (by first | assumption | (apply Ne.symm; assumption) | exact pm_neK (G := G) (by assumption) (by assumption) (by omega) | exact pm_neOA (G := G) (by assumption) (by assumption) | exact (pm_neOA (G := G) (by assumption) (by assumption)).symm | exact pm_neN (G := G) (by assumption) (by assumption) | exact (pm_neN (G := G) (by assumption) (by assumption)).symm) ?_; first | assumption | exact pm_up_eq)))))) rfl hw_312 (Or.inl rfl) ?_
        refine ev_astore d_Run_doSteps_50 (by decide) ?_
        refine ev_aload_n d_Run_doSteps_52 rfl rfl ?_
        refine ev_aload_n d_Run_doSteps_53 rfl rfl ?_
        refine ev_aload d_Run_doSteps_54 rfl ?_
        refine ev_callV2 d_Run_doSteps_56 ck_Run_doStep ml_Run_115 im_Run_doStep se_Run_doStep rfl hr1 (c_Run_doStep k1 k2 hps (hW pl2 hps) k3 k7) (by omega) (Nat.le_of_ble_eq_true rfl) (by omega) (by omega) ?_
        rintro _ G2 ⟨hf2, hcase⟩
        rcases hcase with ⟨heq, rfl, hrs, hss⟩ | ⟨hlt2, rfl, hrs, hss⟩
        · refine ev_if_ne 64 d_Run_doSteps_59 (by decide) (fun hz => absurd rfl hz) (fun _ => ?_)
          have h5 : rw_at X κ r te ti dk d pl an tr p u U sn sa sna sd ka va n told kf vf kv vn tl sl le ln nl nf G2 1 (rs_spent s1) := by
            refine hw1.next hf2 hrs ?_ ?_
            · unfold rs_spent
              rw [rs_leave_G]
              exact hss
            · unfold rs_spent rs_leave
              split
              · exact k7
              · exact k7
          refine ev_iconst (v := 0) d_Run_doSteps_62 (by decide) ?_
          refine ev_zret d_Run_doSteps_63 rfl rfl ⟨_, 1, hf.tr hf2, h5, Or.inr ⟨rfl, K, pl2, 2, Or.inr ⟨rfl, rfl⟩, hg1.tr (gr.one ?_)⟩⟩
          rw [hmid]
          unfold gs_at
          rw [if_pos heq]
        · have hJ2 := rs_do_J (n := n) (kf := kf) (vf := vf) k3.2.2.2.2.2.2 (i := pl2) (hW pl2 hps) k7
          have h5 : rw_at X κ r te ti dk d pl an tr p u U sn sa sna sd ka va n told kf vf kv vn tl sl le ln nl nf G2 tm (rs_do n kf vf pl2 (sd pl2) s1).1 := by
            refine hw1.next hf2 hrs ?_ hJ2.1
            rw [rs_do_G]
            exact hss
          have hat : gs_at n kf vf sd nf bh K pl2 s1 = if (rs_do n kf vf pl2 (sd pl2) s1).2 = false then (K, pl2, (rs_do n kf vf pl2 (sd pl2) s1).1, 1) else if sd pl2 0 = 6 then ((pl2, 0) :: K, pl2 + 1, (rs_do n kf vf pl2 (sd pl2) s1).1, 0)
              else if sd pl2 0 = 7 then (if qN (rs_do n kf vf pl2 (sd pl2) s1).1 = 2000 then ((pl2, 0) :: K, pl2 + 1, rs_spent (rs_do n kf vf pl2 (sd pl2) s1).1, 2) else ((pl2, 0) :: K, pl2 + 1, rs_case (sd pl2) (nf pl2 0) (rs_do n kf vf pl2 (sd pl2) s1).1, 0)) else (K, bh pl2, (rs_do n kf vf pl2 (sd pl2) s1).1, 0) := by
            unfold gs_at
            rw [if_neg (by omega)]
          generalize (rs_do n kf vf pl2 (sd pl2) s1).1 = s2 at h5 hat hrs
          generalize hok : (rs_do n kf vf pl2 (sd pl2) s1).2 = ok at hat ⊢
          cases ok with
          | false =>
            refine ev_if_ne 64 d_Run_doSteps_59 (by decide) (fun hz => absurd rfl hz) (fun _ => ?_)
            refine ev_iconst (v := 0) d_Run_doSteps_62 (by decide) ?_
            refine ev_zret d_Run_doSteps_63 rfl rfl ⟨s2, tm, hf.tr hf2, h5, Or.inr ⟨rfl, K, pl2, 1, Or.inl ⟨rfl, rfl⟩, hg1.tr (gr.one ?_)⟩⟩
            rw [hmid, hat, if_pos rfl]
          | true =>
            rw [if_neg (by decide)] at hat
            refine ev_if_ne 64 d_Run_doSteps_59 (by decide) (fun _ => ?_) (fun hz => absurd hz (by decide))
            have hs2 : G2 (sa pl2) = some (200 + 2 * pl2, .inr (5, se_V (sna pl2) (upd (sd pl2) 8 (qG s2 pl2)))) := h5.2.1 pl2 hps
            obtain ⟨_, _, _, _, _, ⟨st2, sv2, tf2, hr2, -⟩, -⟩ := id h5.1
            -- the end of the body, at 124
            have tail : ∀ (G3 : pm_G) (s3 : rs_T), pm_fr (rs_D κ ti) G G3 → rw_at X κ r te ti dk d pl an tr p u U sn sa sna sd ka va n told kf vf kv vn tl sl le ln nl nf G3 tm s3 → gr en n kf vf sd nl nf bh c0 (K, bh pl2, s3, 0) → ev_W l X m_Run_doSteps E 0 0 (fun y G' => ∃ s' tm', pm_fr (rs_D κ ti) G G' ∧ rw_at X κ r te ti dk d pl an tr p u U sn sa sna sd ka va n told kf vf kv vn tl sl le ln nl nf G' tm' s' ∧ ((y = some (.int 1) ∧ tm' = tm ∧ gr en n kf vf sd nl nf bh c0 (K, to, s', 0)) ∨ (y = some (.int 0) ∧ ∃ K2 p2 oc, ((oc = 1 ∧ tm' = tm) ∨ (oc = 2 ∧ tm' = 1)) ∧ gr en n kf vf sd nl nf bh c0 (K2, p2, s', oc)))) 0 0 124 [(0, .ref r), (1, .ref te), (2, .int (nI fr)), (3, .int (nI to)), (4, .int (nI dep)), (5, .int (nI to)), (6, .int (nI pl2)), (7, .ref (sa pl2))] [] G3 := by
              intro G3 s3 g1 g2 g3
              have hs3 : G3 (sa pl2) = some (200 + 2 * pl2, .inr (5, se_V (sna pl2) (upd (sd pl2) 8 (qG s3 pl2)))) := g2.2.1 pl2 hps
              refine ev_iload d_Run_doSteps_124 rfl ?_
              refine ev_iconst (v := 1) d_Run_doSteps_126 (by decide) ?_
              refine ev_iadd d_Run_doSteps_127 ?_
              rw [nI_1]
              refine ev_aload d_Run_doSteps_128 rfl ?_
              refine ev_get d_Run_doSteps_130 fo_Run_93 (by first | assumption | exact pm_up_eq | (refine pm_up_ne (by first | assumption | (apply Ne.symm; assumption) | exact pm_neK (G := G) (by assumption) (by assumption) (by omega) | exact pm_neOA (G := G) (by assumption) (by assumption) | exact (pm_neOA (G := G) (by assumption) (by assumption)).symm | exact pm_neN (G := G) (by assumption) (by assumption) | exact (pm_neN (G := G) (by assumption) (by assumption)).symm) ?_; first | assumption | exact pm_up_eq | (refine pm_up_ne (by first | assumption | (apply Ne.symm; assumption) | exact pm_neK (G := G) (by assumption) (by assumption) (by omega) | exact pm_neOA (G := G) (by assumption) (by assumption) | exact (pm_neOA (G := G) (by assumption) (by assumption)).symm | exact pm_neN (G := G) (by assumption) (by assumption) | exact (pm_neN (G := G) (by assumption) (by assumption)).symm) ?_; first | assumption | exact pm_up_eq | (refine pm_up_ne (by first | assumption | (apply Ne.symm; assumption) | exact pm_neK (G := G) (by assumption) (by assumption) (by omega) | exact pm_neOA (G := G) (by assumption) (by assumption) | exact (pm_neOA (G := G) (by assumption) (by assumption)).symm | exact pm_neN (G := G) (by assumption) (by assumption) | exact (pm_neN (G := G) (by assumption) (by assumption)).symm) ?_; first | assumption | exact pm_up_eq | (refine pm_up_ne (by first | assumption | (apply Ne.symm; assumption) | exact pm_neK (G := G) (by assumption) (by assumption) (by omega) | exact pm_neOA (G := G) (by assumption) (by assumption) | exact (pm_neOA (G := G) (by assumption) (by assumption)).symm | exact pm_neN (G := G) (by assumption) (by assumption) | exact (pm_neN (G := G) (by assumption) (by assumption)).symm) ?_; first | assumption | exact pm_up_eq | (refine pm_up_ne (by first | assumption | (apply Ne.symm; assumption) | exact pm_neK (G := G) (by assumption) (by assumption) (by omega) | exact pm_neOA (G := G) (by assumption) (by assumption) | exact (pm_neOA (G := G) (by assumption) (by assumption)).symm | exact pm_neN (G := G) (by assumption) (by assumption) | exact (pm_neN (G := G) (by assumption) (by assumption)).symm) ?_; first | assumption | exact pm_up_eq)))))) rfl ?_
              rw [show (upd (sd pl2) 8 (qG s3 pl2)) 7 = nI (bh pl2) from e7]
              refine ev_callS2 d_Run_doSteps_133 ck_Math_max ml_Run_129 sm_Math_max (c_Math_max) (by omega) (Nat.le_of_ble_eq_true rfl) (by omega) (by omega) ?_
              rintro _ _ ⟨rfl, rfl⟩
              have em : (if nI (pl2 + 1) < nI (bh pl2) then nI (bh pl2) else nI (pl2 + 1)) = nI (bh pl2) := by
                by_cases q : pl2 + 1 < bh pl2
                · rw [if_pos (nI_lt q (by omega))]
                · rw [if_neg (nI_nlt (by omega) (by omega)), show bh pl2 = pl2 + 1 by omega]
              rw [em]
              refine ev_istore d_Run_doSteps_136 (by decide) ?_
              refine ev_goto 28 d_Run_doSteps_138 (by decide) ?_
              refine ev_keep [0, 1, 2, 3, 4, 5, 6] ?_
              exact ihm (bh pl2) G3 s3 hl2 (by omega) (by omega) g1 g2 g3
            -- kind 7 is looked for at 94
            have at94 : ∀ (G3 : pm_G) (s3 : rs_T), pm_fr (rs_D κ ti) G G3 → rw_at X κ r te ti dk d pl an tr p u U sn sa sna sd ka va n told kf vf kv vn tl sl le ln nl nf G3 tm s3 → sd pl2 0 ≠ 7 → gr en n kf vf sd nl nf bh c0 (K, bh pl2, s3, 0) → ev_W l X m_Run_doSteps E 0 0 (fun y G' => ∃ s' tm', pm_fr (rs_D κ ti) G G' ∧ rw_at X κ r te ti dk d pl an tr p u U sn sa sna sd ka va n told kf vf kv vn tl sl le ln nl nf G' tm' s' ∧ ((y = some (.int 1) ∧ tm' = tm ∧ gr en n kf vf sd nl nf bh c0 (K, to, s', 0)) ∨ (y = some (.int 0) ∧ ∃ K2 p2 oc, ((oc = 1 ∧ tm' = tm) ∨ (oc = 2 ∧ tm' = 1)) ∧ gr en n kf vf sd nl nf bh c0 (K2, p2, s', oc)))) 0 0 94 [(0, .ref r), (1, .ref te), (2, .int (nI fr)), (3, .int (nI to)), (4, .int (nI dep)), (5, .int (nI to)), (6, .int (nI pl2)), (7, .ref (sa pl2))] [] G3 := by
              intro G3 s3 g1 g2 g4 g3
              have hs3 : G3 (sa pl2) = some (200 + 2 * pl2, .inr (5, se_V (sna pl2) (upd (sd pl2) 8 (qG s3 pl2)))) := g2.2.1 pl2 hps
              refine ev_aload d_Run_doSteps_94 rfl ?_
              refine ev_get d_Run_doSteps_96 fo_Run_119 (by first | assumption | exact pm_up_eq | (refine pm_up_ne (by first | assumption | (apply Ne.symm; assumption) | exact pm_neK (G := G) (by assumption) (by assumption) (by omega) | exact pm_neOA (G := G) (by assumption) (by assumption) | exact (pm_neOA (G := G) (by assumption) (by assumption)).symm | exact pm_neN (G := G) (by assumption) (by assumption) | exact (pm_neN (G := G) (by assumption) (by assumption)).symm) ?_; first | assumption | exact pm_up_eq | (refine pm_up_ne (by first | assumption | (apply Ne.symm; assumption) | exact pm_neK (G := G) (by assumption) (by assumption) (by omega) | exact pm_neOA (G := G) (by assumption) (by assumption) | exact (pm_neOA (G := G) (by assumption) (by assumption)).symm | exact pm_neN (G := G) (by assumption) (by assumption) | exact (pm_neN (G := G) (by assumption) (by assumption)).symm) ?_; first | assumption | exact pm_up_eq | (refine pm_up_ne (by first | assumption | (apply Ne.symm; assumption) | exact pm_neK (G := G) (by assumption) (by assumption) (by omega) | exact pm_neOA (G := G) (by assumption) (by assumption) | exact (pm_neOA (G := G) (by assumption) (by assumption)).symm | exact pm_neN (G := G) (by assumption) (by assumption) | exact (pm_neN (G := G) (by assumption) (by assumption)).symm) ?_; first | assumption | exact pm_up_eq | (refine pm_up_ne (by first | assumption | (apply Ne.symm; assumption) | exact pm_neK (G := G) (by assumption) (by assumption) (by omega) | exact pm_neOA (G := G) (by assumption) (by assumption) | exact (pm_neOA (G := G) (by assumption) (by assumption)).symm | exact pm_neN (G := G) (by assumption) (by assumption) | exact (pm_neN (G := G) (by assumption) (by assumption)).symm) ?_; first | assumption | exact pm_up_eq | (refine pm_up_ne (by first | assumption | (apply Ne.symm; assumption) | exact pm_neK (G := G) (by assumption) (by assumption) (by omega) | exact pm_neOA (G := G) (by assumption) (by assumption) | exact (pm_neOA (G := G) (by assumption) (by assumption)).symm | exact pm_neN (G := G) (by assumption) (by assumption) | exact (pm_neN (G := G) (by assumption) (by assumption)).symm) ?_; first | assumption | exact pm_up_eq)))))) rfl ?_
              refine ev_bipush (v := 7) d_Run_doSteps_99 (by decide) ?_
              refine ev_icmp_ne 124 d_Run_doSteps_101 (by decide) (fun hz => ?_) (fun hz => ?_)
              · exact tail G3 s3 g1 g2 g3
              · exact absurd hz g4
            refine ev_aload d_Run_doSteps_64 rfl ?_
            refine ev_get d_Run_doSteps_66 fo_Run_119 (by first | assumption | exact pm_up_eq | (refine pm_up_ne (by first | assumption | (apply Ne.symm; assumption) | exact pm_neK (G := G) (by assumption) (by assumption) (by omega) | exact pm_neOA (G := G) (by assumption) (by assumption) | exact (pm_neOA (G := G) (by assumption) (by assumption)).symm | exact pm_neN (G := G) (by assumption) (by assumption) | exact (pm_neN (G := G) (by assumption) (by assumption)).symm) ?_; first | assumption | exact pm_up_eq | (refine pm_up_ne (by first | assumption | (apply Ne.symm; assumption) | exact pm_neK (G := G) (by assumption) (by assumption) (by omega) | exact pm_neOA (G := G) (by assumption) (by assumption) | exact (pm_neOA (G := G) (by assumption) (by assumption)).symm | exact pm_neN (G := G) (by assumption) (by assumption) | exact (pm_neN (G := G) (by assumption) (by assumption)).symm) ?_; first | assumption | exact pm_up_eq | (refine pm_up_ne (by first | assumption | (apply Ne.symm; assumption) | exact pm_neK (G := G) (by assumption) (by assumption) (by omega) | exact pm_neOA (G := G) (by assumption) (by assumption) | exact (pm_neOA (G := G) (by assumption) (by assumption)).symm | exact pm_neN (G := G) (by assumption) (by assumption) | exact (pm_neN (G := G) (by assumption) (by assumption)).symm) ?_; first | assumption | exact pm_up_eq | (refine pm_up_ne (by first | assumption | (apply Ne.symm; assumption) | exact pm_neK (G := G) (by assumption) (by assumption) (by omega) | exact pm_neOA (G := G) (by assumption) (by assumption) | exact (pm_neOA (G := G) (by assumption) (by assumption)).symm | exact pm_neN (G := G) (by assumption) (by assumption) | exact (pm_neN (G := G) (by assumption) (by assumption)).symm) ?_; first | assumption | exact pm_up_eq | (refine pm_up_ne (by first | assumption | (apply Ne.symm; assumption) | exact pm_neK (G := G) (by assumption) (by assumption) (by omega) | exact pm_neOA (G := G) (by assumption) (by assumption) | exact (pm_neOA (G := G) (by assumption) (by assumption)).symm | exact pm_neN (G := G) (by assumption) (by assumption) | exact (pm_neN (G := G) (by assumption) (by assumption)).symm) ?_; first | assumption | exact pm_up_eq)))))) rfl ?_
            refine ev_bipush (v := 6) d_Run_doSteps_69 (by decide) ?_
            refine ev_icmp_ne 94 d_Run_doSteps_71 (by decide) (fun h6 => ?_) (fun h6 => ?_)
            · have h6' : ¬ sd pl2 0 = 6 := h6
              rw [if_neg h6'] at hat
              by_cases h7 : sd pl2 0 = 7
              · rw [if_pos h7] at hat
                refine ev_aload d_Run_doSteps_94 rfl ?_
                refine ev_get d_Run_doSteps_96 fo_Run_119 (by first | assumption | exact pm_up_eq | (refine pm_up_ne (by first | assumption | (apply Ne.symm; assumption) | exact pm_neK (G := G) (by assumption) (by assumption) (by omega) | exact pm_neOA (G := G) (by assumption) (by assumption) | exact (pm_neOA (G := G) (by assumption) (by assumption)).symm | exact pm_neN (G := G) (by assumption) (by assumption) | exact (pm_neN (G := G) (by assumption) (by assumption)).symm) ?_; first | assumption | exact pm_up_eq | (refine pm_up_ne (by first | assumption | (apply Ne.symm; assumption) | exact pm_neK (G := G) (by assumption) (by assumption) (by omega) | exact pm_neOA (G := G) (by assumption) (by assumption) | exact (pm_neOA (G := G) (by assumption) (by assumption)).symm | exact pm_neN (G := G) (by assumption) (by assumption) | exact (pm_neN (G := G) (by assumption) (by assumption)).symm) ?_; first | assumption | exact pm_up_eq | (refine pm_up_ne (by first | assumption | (apply Ne.symm; assumption) | exact pm_neK (G := G) (by assumption) (by assumption) (by omega) | exact pm_neOA (G := G) (by assumption) (by assumption) | exact (pm_neOA (G := G) (by assumption) (by assumption)).symm | exact pm_neN (G := G) (by assumption) (by assumption) | exact (pm_neN (G := G) (by assumption) (by assumption)).symm) ?_; first | assumption | exact pm_up_eq | (refine pm_up_ne (by first | assumption | (apply Ne.symm; assumption) | exact pm_neK (G := G) (by assumption) (by assumption) (by omega) | exact pm_neOA (G := G) (by assumption) (by assumption) | exact (pm_neOA (G := G) (by assumption) (by assumption)).symm | exact pm_neN (G := G) (by assumption) (by assumption) | exact (pm_neN (G := G) (by assumption) (by assumption)).symm) ?_; first | assumption | exact pm_up_eq | (refine pm_up_ne (by first | assumption | (apply Ne.symm; assumption) | exact pm_neK (G := G) (by assumption) (by assumption) (by omega) | exact pm_neOA (G := G) (by assumption) (by assumption) | exact (pm_neOA (G := G) (by assumption) (by assumption)).symm | exact pm_neN (G := G) (by assumption) (by assumption) | exact (pm_neN (G := G) (by assumption) (by assumption)).symm) ?_; first | assumption | exact pm_up_eq)))))) rfl ?_
                refine ev_bipush (v := 7) d_Run_doSteps_99 (by decide) ?_
                refine ev_icmp_ne 124 d_Run_doSteps_101 (by decide) (fun hz => ?_) (fun hz => ?_)
                · exact absurd h7 hz
                · have hC := c_Run_doCases (l := l) hpk (hblk pl2 hps (Or.inr h7) hl1) he hps h7 (by omega) h5 hg1 (hmid.trans hat)
                  refine ev_aload_n d_Run_doSteps_104 rfl rfl ?_
                  refine ev_aload_n d_Run_doSteps_105 rfl rfl ?_
                  refine ev_aload d_Run_doSteps_106 rfl ?_
                  refine ev_iload d_Run_doSteps_108 rfl ?_
                  refine ev_iconst (v := 1) d_Run_doSteps_110 (by decide) ?_
                  refine ev_iadd d_Run_doSteps_111 ?_
                  rw [nI_1]
                  refine ev_iload d_Run_doSteps_112 rfl ?_
                  refine ev_iconst (v := 1) d_Run_doSteps_114 (by decide) ?_
                  refine ev_iadd d_Run_doSteps_115 ?_
                  rw [nI_1]
                  refine ev_callV4 d_Run_doSteps_116 ck_Run_doCases ml_Run_126 im_Run_doCases se_Run_doCases rfl hr2 hC (by omega) (Nat.le_of_ble_eq_true rfl) (by omega) (by omega) ?_
                  rintro _ G4 ⟨s4, tm4, hf4, h8, hcase⟩
                  rcases hcase with ⟨rfl, rfl, hg⟩ | ⟨rfl, K2, p2, oc, hoc, hg⟩
                  · refine ev_if_ne 124 d_Run_doSteps_119 (by decide) (fun _ => ?_) (fun hz => absurd hz (by decide))
                    exact tail G4 s4 ((hf.tr hf2).tr hf4) h8 hg
                  · refine ev_if_ne 124 d_Run_doSteps_119 (by decide) (fun hz => absurd rfl hz) (fun _ => ?_)
                    refine ev_iconst (v := 0) d_Run_doSteps_122 (by decide) ?_
                    exact ev_zret d_Run_doSteps_123 rfl rfl (⟨s4, tm4, (hf.tr hf2).tr hf4, h8, Or.inr ⟨rfl, K2, p2, oc, hoc, hg⟩⟩)
              · rw [if_neg h7] at hat
                exact at94 G2 s2 (hf.tr hf2) h5 h7 (hg1.tr (gr.one (hmid.trans hat)))
            · have h6' : sd pl2 0 = 6 := h6
              rw [if_pos h6'] at hat
              have hC := c_Run_doLoop (l := l) hpk (hblk pl2 hps (Or.inl h6') hl1) hps h6' (by omega) h5 (hg1.tr (gr.one (hmid.trans hat)))
              refine ev_aload_n d_Run_doSteps_74 rfl rfl ?_
              refine ev_aload_n d_Run_doSteps_75 rfl rfl ?_
              refine ev_aload d_Run_doSteps_76 rfl ?_
              refine ev_iload d_Run_doSteps_78 rfl ?_
              refine ev_iconst (v := 1) d_Run_doSteps_80 (by decide) ?_
              refine ev_iadd d_Run_doSteps_81 ?_
              rw [nI_1]
              refine ev_iload d_Run_doSteps_82 rfl ?_
              refine ev_iconst (v := 1) d_Run_doSteps_84 (by decide) ?_
              refine ev_iadd d_Run_doSteps_85 ?_
              rw [nI_1]
              refine ev_callV4 d_Run_doSteps_86 ck_Run_doLoop ml_Run_122 im_Run_doLoop se_Run_doLoop rfl hr2 hC (by omega) (Nat.le_of_ble_eq_true rfl) (by omega) (by omega) ?_
              rintro _ G4 ⟨s4, tm4, hf4, h8, hcase⟩
              rcases hcase with ⟨rfl, rfl, hg⟩ | ⟨rfl, K2, p2, oc, hoc, hg⟩
              · refine ev_if_ne 94 d_Run_doSteps_89 (by decide) (fun _ => ?_) (fun hz => absurd hz (by decide))
                exact at94 G4 s4 ((hf.tr hf2).tr hf4) h8 (by rw [h6']; decide) hg
              · refine ev_if_ne 94 d_Run_doSteps_89 (by decide) (fun hz => absurd rfl hz) (fun _ => ?_)
                refine ev_iconst (v := 0) d_Run_doSteps_92 (by decide) ?_
                exact ev_zret d_Run_doSteps_93 rfl rfl (⟨s4, tm4, (hf.tr hf2).tr hf4, h8, Or.inr ⟨rfl, K2, p2, oc, hoc, hg⟩⟩)
  obtain ⟨k1, k2, k3, k4, k5, k6, k7⟩ := id hrw
  obtain ⟨_, _, _, _, _, ⟨st1, sv1, tf1, hr1, -⟩, -⟩ := id k1
  obtain ⟨bL, cL, mL, fL, hL, -⟩ := id k5
  refine cn_in rfl (Nat.le_of_ble_eq_true rfl) ?_
  refine ev_iload d_Run_doSteps_0 rfl ?_
  refine ev_bipush (v := 8) d_Run_doSteps_2 (by decide) ?_
  refine ev_icmp_le 9 d_Run_doSteps_4 (by decide) (fun hd => ?_) (fun hd => ?_)
  · refine ev_iload_n d_Run_doSteps_9 rfl rfl ?_
    refine ev_aload_n d_Run_doSteps_10 rfl rfl ?_
    refine ev_get d_Run_doSteps_11 fo_Run_9 (by first | assumption | exact pm_up_eq | (refine pm_up_ne (by first | assumption | (apply Ne.symm; assumption) | exact pm_neK (G := G) (by assumption) (by assumption) (by omega) | exact pm_neOA (G := G) (by assumption) (by assumption) | exact (pm_neOA (G := G) (by assumption) (by assumption)).symm | exact pm_neN (G := G) (by assumption) (by assumption) | exact (pm_neN (G := G) (by assumption) (by assumption)).symm) ?_; first | assumption | exact pm_up_eq | (refine pm_up_ne (by first | assumption | (apply Ne.symm; assumption) | exact pm_neK (G := G) (by assumption) (by assumption) (by omega) | exact pm_neOA (G := G) (by assumption) (by assumption) | exact (pm_neOA (G := G) (by assumption) (by assumption)).symm | exact pm_neN (G := G) (by assumption) (by assumption) | exact (pm_neN (G := G) (by assumption) (by assumption)).symm) ?_; first | assumption | exact pm_up_eq | (refine pm_up_ne (by first | assumption | (apply Ne.symm; assumption) | exact pm_neK (G := G) (by assumption) (by assumption) (by omega) | exact pm_neOA (G := G) (by assumption) (by assumption) | exact (pm_neOA (G := G) (by assumption) (by assumption)).symm | exact pm_neN (G := G) (by assumption) (by assumption) | exact (pm_neN (G := G) (by assumption) (by assumption)).symm) ?_; first | assumption | exact pm_up_eq | (refine pm_up_ne (by first | assumption | (apply Ne.symm; assumption) | exact pm_neK (G := G) (by assumption) (by assumption) (by omega) | exact pm_neOA (G := G) (by assumption) (by assumption) | exact (pm_neOA (G := G) (by assumption) (by assumption)).symm | exact pm_neN (G := G) (by assumption) (by assumption) | exact (pm_neN (G := G) (by assumption) (by assumption)).symm) ?_; first | assumption | exact pm_up_eq | (refine pm_up_ne (by first | assumption | (apply Ne.symm; assumption) | exact pm_neK (G := G) (by assumption) (by assumption) (by omega) | exact pm_neOA (G := G) (by assumption) (by assumption) | exact (pm_neOA (G := G) (by assumption) (by assumption)).symm | exact pm_neN (G := G) (by assumption) (by assumption) | exact (pm_neN (G := G) (by assumption) (by assumption)).symm) ?_; first | assumption | exact pm_up_eq)))))) rfl ?_
    refine ev_get d_Run_doSteps_14 fo_Run_72 (by first | assumption | exact pm_up_eq | (refine pm_up_ne (by first | assumption | (apply Ne.symm; assumption) | exact pm_neK (G := G) (by assumption) (by assumption) (by omega) | exact pm_neOA (G := G) (by assumption) (by assumption) | exact (pm_neOA (G := G) (by assumption) (by assumption)).symm | exact pm_neN (G := G) (by assumption) (by assumption) | exact (pm_neN (G := G) (by assumption) (by assumption)).symm) ?_; first | assumption | exact pm_up_eq | (refine pm_up_ne (by first | assumption | (apply Ne.symm; assumption) | exact pm_neK (G := G) (by assumption) (by assumption) (by omega) | exact pm_neOA (G := G) (by assumption) (by assumption) | exact (pm_neOA (G := G) (by assumption) (by assumption)).symm | exact pm_neN (G := G) (by assumption) (by assumption) | exact (pm_neN (G := G) (by assumption) (by assumption)).symm) ?_; first | assumption | exact pm_up_eq | (refine pm_up_ne (by first | assumption | (apply Ne.symm; assumption) | exact pm_neK (G := G) (by assumption) (by assumption) (by omega) | exact pm_neOA (G := G) (by assumption) (by assumption) | exact (pm_neOA (G := G) (by assumption) (by assumption)).symm | exact pm_neN (G := G) (by assumption) (by assumption) | exact (pm_neN (G := G) (by assumption) (by assumption)).symm) ?_; first | assumption | exact pm_up_eq | (refine pm_up_ne (by first | assumption | (apply Ne.symm; assumption) | exact pm_neK (G := G) (by assumption) (by assumption) (by omega) | exact pm_neOA (G := G) (by assumption) (by assumption) | exact (pm_neOA (G := G) (by assumption) (by assumption)).symm | exact pm_neN (G := G) (by assumption) (by assumption) | exact (pm_neN (G := G) (by assumption) (by assumption)).symm) ?_; first | assumption | exact pm_up_eq | (refine pm_up_ne (by first | assumption | (apply Ne.symm; assumption) | exact pm_neK (G := G) (by assumption) (by assumption) (by omega) | exact pm_neOA (G := G) (by assumption) (by assumption) | exact (pm_neOA (G := G) (by assumption) (by assumption)).symm | exact pm_neN (G := G) (by assumption) (by assumption) | exact (pm_neN (G := G) (by assumption) (by assumption)).symm) ?_; first | assumption | exact pm_up_eq)))))) rfl ?_
    refine ev_callV0 d_Run_doSteps_17 ck_AL_size ml_Run_78 im_AL_size se_AL_size rfl (by first | assumption | exact pm_up_eq | (refine pm_up_ne (by first | assumption | (apply Ne.symm; assumption) | exact pm_neK (G := G) (by assumption) (by assumption) (by omega) | exact pm_neOA (G := G) (by assumption) (by assumption) | exact (pm_neOA (G := G) (by assumption) (by assumption)).symm | exact pm_neN (G := G) (by assumption) (by assumption) | exact (pm_neN (G := G) (by assumption) (by assumption)).symm) ?_; first | assumption | exact pm_up_eq | (refine pm_up_ne (by first | assumption | (apply Ne.symm; assumption) | exact pm_neK (G := G) (by assumption) (by assumption) (by omega) | exact pm_neOA (G := G) (by assumption) (by assumption) | exact (pm_neOA (G := G) (by assumption) (by assumption)).symm | exact pm_neN (G := G) (by assumption) (by assumption) | exact (pm_neN (G := G) (by assumption) (by assumption)).symm) ?_; first | assumption | exact pm_up_eq | (refine pm_up_ne (by first | assumption | (apply Ne.symm; assumption) | exact pm_neK (G := G) (by assumption) (by assumption) (by omega) | exact pm_neOA (G := G) (by assumption) (by assumption) | exact (pm_neOA (G := G) (by assumption) (by assumption)).symm | exact pm_neN (G := G) (by assumption) (by assumption) | exact (pm_neN (G := G) (by assumption) (by assumption)).symm) ?_; first | assumption | exact pm_up_eq | (refine pm_up_ne (by first | assumption | (apply Ne.symm; assumption) | exact pm_neK (G := G) (by assumption) (by assumption) (by omega) | exact pm_neOA (G := G) (by assumption) (by assumption) | exact (pm_neOA (G := G) (by assumption) (by assumption)).symm | exact pm_neN (G := G) (by assumption) (by assumption) | exact (pm_neN (G := G) (by assumption) (by assumption)).symm) ?_; first | assumption | exact pm_up_eq | (refine pm_up_ne (by first | assumption | (apply Ne.symm; assumption) | exact pm_neK (G := G) (by assumption) (by assumption) (by omega) | exact pm_neOA (G := G) (by assumption) (by assumption) | exact (pm_neOA (G := G) (by assumption) (by assumption)).symm | exact pm_neN (G := G) (by assumption) (by assumption) | exact (pm_neN (G := G) (by assumption) (by assumption)).symm) ?_; first | assumption | exact pm_up_eq)))))) (c_AL_size k5) (by omega) (Nat.le_of_ble_eq_true rfl) (by omega) (by omega) ?_
    rintro _ _ ⟨rfl, rfl⟩
    refine ev_callS2 d_Run_doSteps_20 ck_Math_min ml_Run_109 sm_Math_min (c_Math_min) (by omega) (Nat.le_of_ble_eq_true rfl) (by omega) (by omega) ?_
    rintro _ _ ⟨rfl, rfl⟩
    rw [show (if nI sn < nI to then nI sn else nI to) = nI to from if_neg (nI_nlt hto (by omega))]
    refine ev_istore d_Run_doSteps_23 (by decide) ?_
    refine ev_iload_n d_Run_doSteps_25 rfl rfl ?_
    refine ev_istore d_Run_doSteps_26 (by decide) ?_
    exact loop (to - fr + 1) fr G s hft (by omega) (Nat.le_refl _) pm_fr.rf hrw hc0
  · exact absurd (nI_le (b := 8) hdep (by decide)) hd
theorem c_Run_doSteps (hp : ps_ok sn sd nl bh lv) : ∀ (D dep : Nat), dep + D = 8 → hS l X κ r te ti dk d pl an tr p u U sn sa sna sd ka va n told kf vf kv vn tl sl le ln nl nf bh lv en (6 + 2 * D) dep := by
  intro D
  induction D with
  | zero =>
    intro dep hD
    refine c_Run_doSteps1 hp (e := 4) (by omega) (by omega) (by omega) (fun b hb hk hl => ?_)
    have := (hp.2.2.2.2.2 b hb hk).1
    omega
  | succ D ih =>
    intro dep hD
    exact c_Run_doSteps1 hp (e := 6 + 2 * D) (by omega) (by omega) (by omega) (fun b hb hk hl => ih (dep + 1) (by omega))
end D5
