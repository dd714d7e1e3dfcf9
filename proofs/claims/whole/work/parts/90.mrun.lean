/-! THE MODEL RUNS: run -/
section MRU
variable {l : Launch} {X : pm_X} {G G0 : pm_G} {a : Nat} {A : Nat → Nat} {I : Nat → Int32} {J : Nat → Int64} {M : Nat → Nat → Int32} {W : Nat → Nat → Int64} {z : pz} {lv : Nat → Nat} {rc c n N : Nat} {p : Int32} {q q0 : rr_T} {kf : Nat → Nat} {vf : Nat → Int32} {av at' : Nat → Nat} {ax : Nat → Int32}
def mru_Q (G0 : pm_G) (a : Nat) (A : Nat → Nat) (z : pz) (rc : Nat) (p : Int32) (I : Nat → Int32) (J : Nat → Int64) (M : Nat → Nat → Int32) (W : Nat → Nat → Int64) (q : rr_T) (y : Option Value) (G' : pm_G) : Prop :=
  (zTn z = 0 ∧ y = some (.int (-3)) ∧ mo_at G0 a A (va_up I 0 0) J M W G') ∨ (zTn z ≠ 0 ∧ rc = 8 ∧ y = some (.int (-4)) ∧ mo_at G0 a A (va_up I 0 0) J M W G') ∨ (zTn z ≠ 0 ∧ rc < 8 ∧ y = some (.int (yw q)) ∧ ∃ I' J' M' W', mo_at G0 a A I' J' M' W' G' ∧ mt_fr rc (va_up (va_up I 0 0) 44 (nI (rc + 1))) I' J J' M M' W W' ∧ mrr z rc p (zTn z) q I' J' M' W' ∧ rrq (zTn z) q)
set_option maxHeartbeats 1000000 in
theorem c_Mo_run (hz : pz_ok z) (hn : pz_n z lv) (hrc : rc ≤ 8) (h44 : I 44 = nI rc) (h14 : I 14 = nI (zTn z)) (hpl : mpl_ok z c M W) (ha : ma_at N av at' ax I M W) (hok : ma_ok N n kf vf av at' ax) (hD : ∃ d, d < 2 ^ 32 ∧ J 43 = lN d) (h33 : ∀ j, j < zSn z → M 33 j = yG q0 j) (h42 : ∀ f, 1 ≤ f → f < 9 → M 42 f = fb p f) (h19 : ∀ j, j < zTn z → M 19 (j + 1) = yT q0 j 5) (hq0 : yD q0 = J 43 ∧ yN q0 = 0 ∧ yL q0 = -1 ∧ yu q0 = 0 ∧ yw q0 = 0) (hrr : zTn z ≠ 0 → rc < 8 → rr_R n kf vf (zSD z) (zNl z) (zNf z) (zBh z) (zFi z) (zBe z) (zAl z) p q0 (zTn z) q) (hG : mo_at G0 a A I J M W G) : cn_M l X m_Mo_run 6 0 0 [.ref a] G (mru_Q G0 a A z rc p I J M W q) := by
  have t12 := hz.1.2.2.1
  refine cn_in rfl (Nat.le_of_ble_eq_true rfl) ?_
  refine ev_aload_n d_Mo_run_0 rfl rfl ?_
  refine ev_iconst (v := 0) d_Mo_run_1 (by decide) ?_
  refine em_putI (i := 0) hG d_Mo_run_2 fo_Mo_127 rfl rfl (by decide) mv_0 (fun G hG => ?_)
  refine ev_aload_n d_Mo_run_5 rfl rfl ?_
  refine em_getI (i := 14) hG d_Mo_run_6 fo_Mo_171 rfl (by (repeat (first | apply va_up_t (h := by decide) | apply mo_w_t (h5 := by decide) (h7 := by decide) (h8 := by decide) | exact va_up_s | exact mo_w_5 | exact mo_w_7 | exact mo_w_8 | assumption)); all_goals rfl) ?_
  refine ev_if_ne 15 d_Mo_run_9 (by decide) (fun ht => ?_) (fun ht => ?_)
  · have ht : zTn z ≠ 0 := fun y => ht (by rw [y]; rfl)
    refine ev_aload_n d_Mo_run_15 rfl rfl ?_
    refine em_getI (i := 44) hG d_Mo_run_16 fo_Mo_232 rfl (by (repeat (first | apply va_up_t (h := by decide) | apply mo_w_t (h5 := by decide) (h7 := by decide) (h8 := by decide) | exact va_up_s | exact mo_w_5 | exact mo_w_7 | exact mo_w_8 | assumption)); all_goals rfl) ?_
    refine ev_bipush (v := 8) d_Mo_run_19 (by decide) ?_
    refine ev_icmp_ne 27 d_Mo_run_21 (by decide) (fun hr8 => ?_) (fun hr8 => ?_)
    · have hr : rc < 8 := by
        rcases Nat.lt_or_ge rc 8 with y | y
        · exact y
        · exact absurd (by rw [show rc = 8 by omega]; rfl) hr8
      have key : ∀ (k : Nat) (qk : rr_T), rr_R n kf vf (zSD z) (zNl z) (zNf z) (zBh z) (zFi z) (zBe z) (zAl z) p q0 k qk → k ≤ zTn z → (∀ (I1 : Nat → Int32) (J1 : Nat → Int64) (M1 : Nat → Nat → Int32) (W1 : Nat → Nat → Int64) (G : pm_G), mrr z rc p k qk I1 J1 M1 W1 → rrq k qk → mt_fr rc (va_up (va_up I 0 0) 44 (nI (rc + 1))) I1 J J1 M M1 W W1 → mo_at G0 a A I1 J1 M1 W1 G → ev_W l X m_Mo_run 6 0 0 (mru_Q G0 a A z rc p I J M W q) 0 0 69 [(0, .ref a), (1, .int (yw qk)), (2, .int (nI (k + 1)))] [] G) → ∀ (I1 : Nat → Int32) (J1 : Nat → Int64) (M1 : Nat → Nat → Int32) (W1 : Nat → Nat → Int64) (G : pm_G), mrr z rc p 0 q0 I1 J1 M1 W1 → rrq 0 q0 → mt_fr rc (va_up (va_up I 0 0) 44 (nI (rc + 1))) I1 J J1 M M1 W W1 → mo_at G0 a A I1 J1 M1 W1 G → ev_W l X m_Mo_run 6 0 0 (mru_Q G0 a A z rc p I J M W q) 0 0 69 [(0, .ref a), (1, .int (yw q0)), (2, .int (nI 1))] [] G := by
        intro k
        induction k with
        | zero =>
          intro qk hk _ cont I1 J1 M1 W1 G h1 h2 h3 h4
          have : qk = q0 := hk
          subst this
          exact cont I1 J1 M1 W1 G h1 h2 h3 h4
        | succ k ih =>
          intro qk hk hkt cont
          obtain ⟨q1, s2, ab, hk1, htt, rfl⟩ := hk
          refine ih q1 hk1 (by omega) (fun I1 J1 M1 W1 G h1 h2 h3 hG => ?_)
          have i14 : I1 14 = nI (zTn z) := (h3.1 14 (by decide) (by decide) (by decide) (by decide)).trans h14
          have hpl1 := hpl.ft h3
          have ha0 : ma_at N av at' ax (va_up (va_up I 0 0) 44 (nI (rc + 1))) M W := ha
          have ha1 := ha0.ft h3
          refine ev_iload_n d_Mo_run_69 rfl rfl ?_
          refine ev_aload_n d_Mo_run_70 rfl rfl ?_
          refine em_getI (i := 14) hG d_Mo_run_71 fo_Mo_171 rfl (by (repeat (first | apply va_up_t (h := by decide) | apply mo_w_t (h5 := by decide) (h7 := by decide) (h8 := by decide) | exact va_up_s | exact mo_w_5 | exact mo_w_7 | exact mo_w_8 | assumption)); all_goals rfl) ?_
          refine ev_icmp_gt 109 d_Mo_run_74 (by decide) (fun w => absurd w (nI_nlt (by omega) (by omega))) (fun _ => ?_)
          refine ev_aload_n d_Mo_run_77 rfl rfl ?_
          refine ev_iload_n d_Mo_run_78 rfl rfl ?_
          refine ev_callV1 d_Mo_run_79 ck_Mo_test ml_Mo_301 im_Mo_test se_Mo_test rfl hG.1 (c_Mo_test (c := c) hz hn hr (show k < zTn z by omega) hpl1 ha1 hok h1 h2 htt hG) (by omega) (Nat.le_of_ble_eq_true rfl) (by omega) (by omega) ?_
          rintro _ G ⟨rfl, I2, J2, M2, W2, hG, hf2, hm2, hq2, hs2, m20⟩
          have hf3 := h3.tr hf2
          obtain ⟨ve, hve⟩ : ∃ y, y = (qW (rs_fin s2)).1 := ⟨_, rfl⟩
          have ew : yw (rr_next p k s2 ab q1) = if yw q1 < (qW (rs_fin s2)).1 then (qW (rs_fin s2)).1 else yw q1 := rfl
          rw [← hve] at m20 ew
          obtain ⟨w1, hw1⟩ : ∃ y, y = yw q1 := ⟨_, rfl⟩
          rw [← hw1] at ew ⊢
          have fin : ∀ (y : Int32), y = yw (rr_next p k s2 ab q1) → ev_W l X m_Mo_run 6 0 0 (mru_Q G0 a A z rc p I J M W q) 0 0 102 [(0, .ref a), (1, .int w1), (2, .int (nI (k + 1)))] [.int y] G := by
            intro y hy
            subst hy
            refine ev_istore_n d_Mo_run_102 rfl (by decide) ?_
            refine ev_iinc d_Mo_run_103 rfl (by first | exact nI_1 _ | rfl) (by decide) ?_
            refine ev_goto 69 d_Mo_run_106 (by decide) ?_
            exact cont I2 J2 M2 W2 G hm2 hq2 hf3 hG
          refine ev_aload_n d_Mo_run_82 rfl rfl ?_
          refine em_getA (i := 20) hG d_Mo_run_83 fo_Mo_37 rfl ?_
          refine ev_iload_n d_Mo_run_86 rfl rfl ?_
          refine em_iald (i := 20) (N := 13) hG d_Mo_run_87 rfl rfl (by decide) (by omega) (by (repeat (first | apply va_up_mt (h := by decide) | apply va_up_ms | apply pk_ut (h := by omega) | apply pk_uLt (h := by omega) | exact pk_us | exact pk_uLs | assumption)); all_goals rfl) ?_
          refine ev_iload_n d_Mo_run_88 rfl rfl ?_
          by_cases hlt : w1 < ve
          · refine ev_icmp_le 101 d_Mo_run_89 (by decide) (fun w => absurd hlt (Int32.not_lt.mpr w)) (fun _ => ?_)
            refine ev_aload_n d_Mo_run_92 rfl rfl ?_
            refine em_getA (i := 20) hG d_Mo_run_93 fo_Mo_37 rfl ?_
            refine ev_iload_n d_Mo_run_96 rfl rfl ?_
            refine em_iald (i := 20) (N := 13) hG d_Mo_run_97 rfl rfl (by decide) (by omega) (by (repeat (first | apply va_up_mt (h := by decide) | apply va_up_ms | apply pk_ut (h := by omega) | apply pk_uLt (h := by omega) | exact pk_us | exact pk_uLs | assumption)); all_goals rfl) ?_
            refine ev_goto 102 d_Mo_run_98 (by decide) ?_
            exact fin _ (by rw [ew, if_pos hlt])
          · refine ev_icmp_le 101 d_Mo_run_89 (by decide) (fun _ => ?_) (fun w => absurd (Int32.not_le.mp w) hlt)
            refine ev_iload_n d_Mo_run_101 rfl rfl ?_
            exact fin _ (by rw [ew, if_neg hlt])
      obtain ⟨d, d1, d2⟩ := hD
      obtain ⟨e1, e2, e3, e4, e5⟩ := hq0
      refine ev_aload_n d_Mo_run_27 rfl rfl ?_
      refine em_getA (i := 45) hG d_Mo_run_28 fo_Mo_100 rfl ?_
      refine ev_aload_n d_Mo_run_31 rfl rfl ?_
      refine em_getI (i := 44) hG d_Mo_run_32 fo_Mo_232 rfl (by (repeat (first | apply va_up_t (h := by decide) | apply mo_w_t (h5 := by decide) (h7 := by decide) (h8 := by decide) | exact va_up_s | exact mo_w_5 | exact mo_w_7 | exact mo_w_8 | assumption)); all_goals rfl) ?_
      refine ev_iconst (v := 0) d_Mo_run_35 (by decide) ?_
      refine em_iast (i := 45) (N := 8) hG d_Mo_run_36 rfl rfl (by decide) (by omega) (fun G hG => ?_)
      refine ev_aload_n d_Mo_run_37 rfl rfl ?_
      refine ev_dup d_Mo_run_38 rfl ?_
      refine em_getI (i := 44) hG d_Mo_run_39 fo_Mo_232 rfl (by (repeat (first | apply va_up_t (h := by decide) | apply mo_w_t (h5 := by decide) (h7 := by decide) (h8 := by decide) | exact va_up_s | exact mo_w_5 | exact mo_w_7 | exact mo_w_8 | assumption)); all_goals rfl) ?_
      refine ev_iconst (v := 1) d_Mo_run_42 (by decide) ?_
      refine ev_iadd d_Mo_run_43 ?_
      rw [nI_1]
      refine em_putI (i := 44) hG d_Mo_run_44 fo_Mo_232 rfl rfl (by decide) mv_44 (fun G hG => ?_)
      refine ev_aload_n d_Mo_run_47 rfl rfl ?_
      refine ev_iconst (v := 0) d_Mo_run_48 (by decide) ?_
      refine em_putI (i := 49) hG d_Mo_run_49 fo_Mo_298 rfl rfl (by decide) mv_49 (fun G hG => ?_)
      refine ev_aload_n d_Mo_run_52 rfl rfl ?_
      refine ev_iconst (v := -1) d_Mo_run_53 (by decide) ?_
      refine em_putI (i := 51) hG d_Mo_run_54 fo_Mo_266 rfl rfl (by decide) mv_51 (fun G hG => ?_)
      refine ev_aload_n d_Mo_run_57 rfl rfl ?_
      refine ev_aload_n d_Mo_run_58 rfl rfl ?_
      refine em_getJ (i := 43) hG d_Mo_run_59 fo_Mo_96 rfl (by (repeat (first | apply va_up_t (h := by decide) | apply mo_w_t (h5 := by decide) (h7 := by decide) (h8 := by decide) | exact va_up_s | exact mo_w_5 | exact mo_w_7 | exact mo_w_8 | assumption)); all_goals rfl) ?_
      refine em_putJ (i := 53) hG d_Mo_run_62 fo_Mo_272 rfl rfl (by decide) mv_53 (fun G hG => ?_)
      refine ev_iconst (v := 0) d_Mo_run_65 (by decide) ?_
      refine ev_istore_n d_Mo_run_66 rfl (by decide) ?_
      refine ev_iconst (v := 1) d_Mo_run_67 (by decide) ?_
      refine ev_istore_n d_Mo_run_68 rfl (by decide) ?_
      have endl : ∀ (I1 : Nat → Int32) (J1 : Nat → Int64) (M1 : Nat → Nat → Int32) (W1 : Nat → Nat → Int64) (G : pm_G), mrr z rc p (zTn z) q I1 J1 M1 W1 → rrq (zTn z) q → mt_fr rc (va_up (va_up I 0 0) 44 (nI (rc + 1))) I1 J J1 M M1 W W1 → mo_at G0 a A I1 J1 M1 W1 G → ev_W l X m_Mo_run 6 0 0 (mru_Q G0 a A z rc p I J M W q) 0 0 69 [(0, .ref a), (1, .int (yw q)), (2, .int (nI (zTn z + 1)))] [] G := by
        intro I1 J1 M1 W1 G h1 h2 h3 hG
        have i14 : I1 14 = nI (zTn z) := (h3.1 14 (by decide) (by decide) (by decide) (by decide)).trans h14
        refine ev_iload_n d_Mo_run_69 rfl rfl ?_
        refine ev_aload_n d_Mo_run_70 rfl rfl ?_
        refine em_getI (i := 14) hG d_Mo_run_71 fo_Mo_171 rfl (by (repeat (first | apply va_up_t (h := by decide) | apply mo_w_t (h5 := by decide) (h7 := by decide) (h8 := by decide) | exact va_up_s | exact mo_w_5 | exact mo_w_7 | exact mo_w_8 | assumption)); all_goals rfl) ?_
        refine ev_icmp_gt 109 d_Mo_run_74 (by decide) (fun _ => ?_) (fun w => absurd (nI_lt (by omega) (by omega)) w)
        refine ev_iload_n d_Mo_run_109 rfl rfl ?_
        exact ev_iret d_Mo_run_110 rfl (Or.inr (Or.inr ⟨ht, hr, rfl, I1, J1, M1, W1, hG, h3, h1, h2⟩))
      have go0 := key (zTn z) q (hrr ht hr) (Nat.le_refl _) endl
      rw [e5] at go0
      refine go0 _ _ _ _ G ?_ ?_ ?_ hG
      · refine ⟨(by (repeat (first | apply va_up_t (h := by decide) | apply mo_w_t (h5 := by decide) (h7 := by decide) (h8 := by decide) | exact va_up_s | exact mo_w_5 | exact mo_w_7 | exact mo_w_8 | assumption)); all_goals rfl), fun _ => ?_, ?_, ?_, fun k hk => ?_, h33, ?_, fun j hj => ?_, h42, fun j hj => by omega, h19⟩
        · rw [e1, d2]; exact va_up_s
        · rw [e2]; exact (congrFun va_up_s rc).trans pk_us
        · rw [e3]; exact (by (repeat (first | apply va_up_t (h := by decide) | apply mo_w_t (h5 := by decide) (h7 := by decide) (h8 := by decide) | exact va_up_s | exact mo_w_5 | exact mo_w_7 | exact mo_w_8 | assumption)); all_goals rfl)
        · rw [e2] at hk; omega
        · rw [e4]; exact (by (repeat (first | apply va_up_t (h := by decide) | apply mo_w_t (h5 := by decide) (h7 := by decide) (h8 := by decide) | exact va_up_s | exact mo_w_5 | exact mo_w_7 | exact mo_w_8 | assumption)); all_goals rfl)
        · rw [e4] at hj; omega
      · exact ⟨by omega, ⟨d, d1, by rw [e1, d2]⟩, Or.inl e3, by omega⟩
      · have f0 : mt_fr rc (va_up (va_up I 0 0) 44 (nI (rc + 1))) (va_up (va_up I 0 0) 44 (nI (rc + 1))) J J M (va_up M 45 (upd (M 45) rc 0)) W W := by
          have := (mt_fr.rf (r := rc) (I := va_up (va_up I 0 0) 44 (nI (rc + 1))) (J := J) (M := M) (W := W))
          exact ⟨this.1, this.2.1, fun k b1 b2 b3 b4 b5 b6 b7 b8 b9 b10 => va_up_n b6, fun j hj => (congrFun va_up_s j).trans (pk_un hj), this.2.2.2.2.1, this.2.2.2.2.2⟩
        exact ((f0.i (by decide)).i (by decide)).j (by decide)
    · have hr8 : rc = 8 := (nI_eq (by omega) (b := 8) (by omega)).mp hr8
      refine ev_bipush (v := -4) d_Mo_run_24 (by decide) ?_
      exact ev_iret d_Mo_run_26 rfl (Or.inr (Or.inl ⟨ht, hr8, rfl, hG⟩))
  · have ht : zTn z = 0 := (nI_eq (by omega) (b := 0) (by omega)).mp ht
    refine ev_bipush (v := -3) d_Mo_run_12 (by decide) ?_
    exact ev_iret d_Mo_run_14 rfl (Or.inl ⟨ht, rfl, hG⟩)
end MRU
