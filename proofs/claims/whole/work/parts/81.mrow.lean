/-! THE MODEL RUNS: begin, row, setting, leave -/
section MW
variable {l : Launch} {X : pm_X} {G G0 : pm_G} {a : Nat} {A : Nat → Nat} {I : Nat → Int32} {J : Nat → Int64} {M : Nat → Nat → Int32} {W : Nat → Nat → Int64} {r N s v t : Nat} {li : Int32} {x : Int64}
theorem c_Mo_begin (hG : mo_at G0 a A I J M W G) (h44 : I 44 = nI (r + 1)) (hr : r < 8) (h45 : M 45 r = nI N) (hN : N ≤ 2000) (hs : s < 1200) (h25 : M 25 s = li) : cn_M l X m_Mo_begin 0 0 0 [.ref a, .int (nI s)] G (fun y G' => (N = 2000 ∧ y = some (.int 0) ∧ mo_at G0 a A (va_up I 55 2) J M W G') ∨ (N < 2000 ∧ y = some (.int 1) ∧ mo_at G0 a A (va_up I 54 li) J (va_up M 33 (upd (M 33) s 1)) W G')) := by
  refine cn_in rfl (Nat.le_of_ble_eq_true rfl) ?_
  refine ev_aload_n d_Mo_begin_0 rfl rfl ?_
  refine em_getI (i := 44) hG d_Mo_begin_1 fo_Mo_232 rfl (by (repeat (first | apply va_up_t (h := by decide) | apply mo_w_t (h5 := by decide) (h7 := by decide) (h8 := by decide) | exact va_up_s | exact mo_w_5 | exact mo_w_7 | exact mo_w_8 | assumption)); all_goals rfl) ?_
  refine ev_iconst (v := 1) d_Mo_begin_4 (by decide) ?_
  refine ev_isub d_Mo_begin_5 ?_
  rw [show (nI (r + 1) - 1 : Int32) = nI r from nI_pred r]
  refine ev_istore_n d_Mo_begin_6 rfl (by decide) ?_
  refine ev_aload_n d_Mo_begin_7 rfl rfl ?_
  refine em_getA (i := 45) hG d_Mo_begin_8 fo_Mo_100 rfl ?_
  refine ev_iload_n d_Mo_begin_11 rfl rfl ?_
  refine em_iald (i := 45) (N := 8) hG d_Mo_begin_12 rfl rfl (by decide) (by omega) (by (repeat (first | apply va_up_mt (h := by decide) | apply va_up_ms | apply pk_ut (h := by omega) | apply pk_uLt (h := by omega) | exact pk_us | exact pk_uLs | assumption)); all_goals rfl) ?_
  refine ev_sipush (v := 2000) d_Mo_begin_13 (by decide) ?_
  refine ev_icmp_ne 26 d_Mo_begin_16 (by decide) (fun hc => ?_) (fun hc => ?_)
  · have hc : ¬ N = 2000 := fun q => hc (by rw [q]; rfl)
    refine ev_aload_n d_Mo_begin_26 rfl rfl ?_
    refine em_getA (i := 33) hG d_Mo_begin_27 fo_Mo_74 rfl ?_
    refine ev_iload_n d_Mo_begin_30 rfl rfl ?_
    refine ev_iconst (v := 1) d_Mo_begin_31 (by decide) ?_
    refine em_zast (i := 33) (N := 1200) hG d_Mo_begin_32 rfl rfl (by decide) (by omega) (by first | assumption | exact cI_v | decide) (fun G hG => ?_)
    refine ev_aload_n d_Mo_begin_33 rfl rfl ?_
    refine ev_aload_n d_Mo_begin_34 rfl rfl ?_
    refine em_getA (i := 25) hG d_Mo_begin_35 fo_Mo_50 rfl ?_
    refine ev_iload_n d_Mo_begin_38 rfl rfl ?_
    refine em_iald (i := 25) (N := 1200) hG d_Mo_begin_39 rfl rfl (by decide) (by omega) (by (repeat (first | apply va_up_mt (h := by decide) | apply va_up_ms | apply pk_ut (h := by omega) | apply pk_uLt (h := by omega) | exact pk_us | exact pk_uLs | assumption)); all_goals rfl) ?_
    refine em_putI (i := 54) hG d_Mo_begin_40 fo_Mo_256 rfl rfl (by decide) mv_54 (fun G hG => ?_)
    refine ev_iconst (v := 1) d_Mo_begin_43 (by decide) ?_
    exact ev_zret d_Mo_begin_44 rfl rfl (Or.inr ⟨by omega, rfl, hG⟩)
  · have hc : N = 2000 := (nI_eq (by omega) (b := 2000) (by omega)).mp hc
    refine ev_aload_n d_Mo_begin_19 rfl rfl ?_
    refine ev_iconst (v := 2) d_Mo_begin_20 (by decide) ?_
    refine em_putI (i := 55) hG d_Mo_begin_21 fo_Mo_253 rfl rfl (by decide) mv_55 (fun G hG => ?_)
    refine ev_iconst (v := 0) d_Mo_begin_24 (by decide) ?_
    exact ev_zret d_Mo_begin_25 rfl rfl (Or.inl ⟨hc, rfl, hG⟩)
/-- what a row writes -/
def mw_M (M : Nat → Nat → Int32) (r N : Nat) (li : Int32) : Nat → Nat → Int32 := va_up (va_up M 46 (upd (M 46) (2000 * r + N) li)) 45 (upd (M 45) r (nI (N + 1)))
def mw_W (W : Nat → Nat → Int64) (J : Nat → Int64) (r N : Nat) (x : Int64) : Nat → Nat → Int64 := va_up (va_up W 47 (vp_updL (W 47) (2000 * r + N) (J 52))) 48 (vp_updL (W 48) (2000 * r + N) x)
set_option maxHeartbeats 1000000 in
theorem c_Mo_row (hG : mo_at G0 a A I J M W G) (h44 : I 44 = nI (r + 1)) (hr : r < 8) (h45 : M 45 r = nI N) (hN : N < 2000) (hs : s < 1200) (h25 : M 25 s = li) : cn_M l X m_Mo_row 0 0 0 [.ref a, .int (nI s), .long x] G (fun y G' => y = none ∧ mo_at G0 a A I J (mw_M M r N li) (mw_W W J r N x) G') := by
  refine cn_in rfl (Nat.le_of_ble_eq_true rfl) ?_
  refine ev_sipush (v := 2000) d_Mo_row_0 (by decide) ?_
  refine ev_aload_n d_Mo_row_3 rfl rfl ?_
  refine em_getI (i := 44) hG d_Mo_row_4 fo_Mo_232 rfl (by (repeat (first | apply va_up_t (h := by decide) | apply mo_w_t (h5 := by decide) (h7 := by decide) (h8 := by decide) | exact va_up_s | exact mo_w_5 | exact mo_w_7 | exact mo_w_8 | assumption)); all_goals rfl) ?_
  refine ev_iconst (v := 1) d_Mo_row_7 (by decide) ?_
  refine ev_isub d_Mo_row_8 ?_
  rw [show (nI (r + 1) - 1 : Int32) = nI r from nI_pred r]
  rw [show (2000 : Int32) = nI 2000 from rfl]
  refine ev_imul d_Mo_row_9 ?_
  rw [pk_mul]
  refine ev_aload_n d_Mo_row_10 rfl rfl ?_
  refine em_getA (i := 45) hG d_Mo_row_11 fo_Mo_100 rfl ?_
  refine ev_aload_n d_Mo_row_14 rfl rfl ?_
  refine em_getI (i := 44) hG d_Mo_row_15 fo_Mo_232 rfl (by (repeat (first | apply va_up_t (h := by decide) | apply mo_w_t (h5 := by decide) (h7 := by decide) (h8 := by decide) | exact va_up_s | exact mo_w_5 | exact mo_w_7 | exact mo_w_8 | assumption)); all_goals rfl) ?_
  refine ev_iconst (v := 1) d_Mo_row_18 (by decide) ?_
  refine ev_isub d_Mo_row_19 ?_
  rw [show (nI (r + 1) - 1 : Int32) = nI r from nI_pred r]
  refine em_iald (i := 45) (N := 8) hG d_Mo_row_20 rfl rfl (by decide) (by omega) (by (repeat (first | apply va_up_mt (h := by decide) | apply va_up_ms | apply pk_ut (h := by omega) | apply pk_uLt (h := by omega) | exact pk_us | exact pk_uLs | assumption)); all_goals rfl) ?_
  refine ev_iadd d_Mo_row_21 ?_
  rw [nI_add]
  refine ev_istore d_Mo_row_22 (by decide) ?_
  refine ev_aload_n d_Mo_row_24 rfl rfl ?_
  refine em_getA (i := 46) hG d_Mo_row_25 fo_Mo_103 rfl ?_
  refine ev_iload d_Mo_row_28 rfl ?_
  refine ev_aload_n d_Mo_row_30 rfl rfl ?_
  refine em_getA (i := 25) hG d_Mo_row_31 fo_Mo_50 rfl ?_
  refine ev_iload_n d_Mo_row_34 rfl rfl ?_
  refine em_iald (i := 25) (N := 1200) hG d_Mo_row_35 rfl rfl (by decide) (by omega) (by (repeat (first | apply va_up_mt (h := by decide) | apply va_up_ms | apply pk_ut (h := by omega) | apply pk_uLt (h := by omega) | exact pk_us | exact pk_uLs | assumption)); all_goals rfl) ?_
  refine em_iast (i := 46) (N := 16000) hG d_Mo_row_36 rfl rfl (by decide) (by omega) (fun G hG => ?_)
  refine ev_aload_n d_Mo_row_37 rfl rfl ?_
  refine em_getA (i := 47) hG d_Mo_row_38 fo_Mo_106 rfl ?_
  refine ev_iload d_Mo_row_41 rfl ?_
  refine ev_aload_n d_Mo_row_43 rfl rfl ?_
  refine em_getJ (i := 52) hG d_Mo_row_44 fo_Mo_243 rfl (by (repeat (first | apply va_up_t (h := by decide) | apply mo_w_t (h5 := by decide) (h7 := by decide) (h8 := by decide) | exact va_up_s | exact mo_w_5 | exact mo_w_7 | exact mo_w_8 | assumption)); all_goals rfl) ?_
  refine em_last (i := 47) (N := 16000) hG d_Mo_row_47 rfl rfl (by decide) (by omega) (fun G hG => ?_)
  refine ev_aload_n d_Mo_row_48 rfl rfl ?_
  refine em_getA (i := 48) hG d_Mo_row_49 fo_Mo_109 rfl ?_
  refine ev_iload d_Mo_row_52 rfl ?_
  refine ev_lload_n d_Mo_row_54 rfl rfl ?_
  refine em_last (i := 48) (N := 16000) hG d_Mo_row_55 rfl rfl (by decide) (by omega) (fun G hG => ?_)
  refine ev_aload_n d_Mo_row_56 rfl rfl ?_
  refine em_getA (i := 45) hG d_Mo_row_57 fo_Mo_100 rfl ?_
  refine ev_aload_n d_Mo_row_60 rfl rfl ?_
  refine em_getI (i := 44) hG d_Mo_row_61 fo_Mo_232 rfl (by (repeat (first | apply va_up_t (h := by decide) | apply mo_w_t (h5 := by decide) (h7 := by decide) (h8 := by decide) | exact va_up_s | exact mo_w_5 | exact mo_w_7 | exact mo_w_8 | assumption)); all_goals rfl) ?_
  refine ev_iconst (v := 1) d_Mo_row_64 (by decide) ?_
  refine ev_isub d_Mo_row_65 ?_
  rw [show (nI (r + 1) - 1 : Int32) = nI r from nI_pred r]
  first | refine ev_dup2l d_Mo_row_66 rfl ?_ | refine ev_dup2 d_Mo_row_66 rfl rfl ?_
  refine em_iald (i := 45) (N := 8) hG d_Mo_row_67 rfl rfl (by decide) (by omega) (by (repeat (first | apply va_up_mt (h := by decide) | apply va_up_ms | apply pk_ut (h := by omega) | apply pk_uLt (h := by omega) | exact pk_us | exact pk_uLs | assumption)); all_goals rfl) ?_
  refine ev_iconst (v := 1) d_Mo_row_68 (by decide) ?_
  refine ev_iadd d_Mo_row_69 ?_
  rw [nI_1]
  refine em_iast (i := 45) (N := 8) hG d_Mo_row_70 rfl rfl (by decide) (by omega) (fun G hG => ?_)
  exact ev_vret d_Mo_row_71 rfl (⟨rfl, hG⟩)
/-- what a set value writes besides -/
def mw_S (W : Nat → Nat → Int64) (J : Nat → Int64) (v : Nat) (x : Int64) : Nat → Nat → Int64 := va_up (va_up W 57 (vp_updL (W 57) v x)) 58 (vp_updL (W 58) v (J 52))
set_option maxHeartbeats 1000000 in
theorem c_Mo_setting (hG : mo_at G0 a A I J M W G) (h44 : I 44 = nI (r + 1)) (hr : r < 8) (h45 : M 45 r = nI N) (hN : N ≤ 2000) (hs : s < 1200) (h25 : M 25 s = li) (h26 : M 26 s = nI v) (hv : v ≤ 20) : cn_M l X m_Mo_setting 1 0 0 [.ref a, .int (nI s), .long x] G (fun y G' => y = none ∧ ((N = 2000 ∧ mo_at G0 a A (va_up I 55 2) J M W G') ∨ (N < 2000 ∧ mo_at G0 a A (va_up I 54 li) J (mw_M (va_up M 33 (upd (M 33) s 1)) r N li) (mw_S (mw_W W J r N x) J v x) G'))) := by
  refine cn_in rfl (Nat.le_of_ble_eq_true rfl) ?_
  refine ev_aload_n d_Mo_setting_0 rfl rfl ?_
  refine ev_iload_n d_Mo_setting_1 rfl rfl ?_
  refine ev_callV1 d_Mo_setting_2 ck_Mo_begin ml_Mo_259 im_Mo_begin se_Mo_begin rfl hG.1 (c_Mo_begin hG h44 hr h45 hN hs h25) (by omega) (Nat.le_of_ble_eq_true rfl) (by omega) (by omega) ?_
  rintro _ G (⟨hN2, rfl, hG⟩ | ⟨hN2, rfl, hG⟩)
  · refine ev_if_ne 9 d_Mo_setting_5 (by decide) (fun z => absurd rfl z) (fun _ => ?_)
    exact ev_vret d_Mo_setting_8 rfl (⟨rfl, Or.inl ⟨hN2, hG⟩⟩)
  · refine ev_if_ne 9 d_Mo_setting_5 (by decide) (fun _ => ?_) (fun z => absurd z (by decide))
    refine ev_aload_n d_Mo_setting_9 rfl rfl ?_
    refine ev_iload_n d_Mo_setting_10 rfl rfl ?_
    refine ev_lload_n d_Mo_setting_11 rfl rfl ?_
    refine ev_callV2 d_Mo_setting_12 ck_Mo_row ml_Mo_262 im_Mo_row se_Mo_row rfl hG.1 (c_Mo_row (r := r) (N := N) (li := li) hG (by (repeat (first | apply va_up_t (h := by decide) | apply mo_w_t (h5 := by decide) (h7 := by decide) (h8 := by decide) | exact va_up_s | exact mo_w_5 | exact mo_w_7 | exact mo_w_8 | assumption)); all_goals rfl) hr (by (repeat (first | apply va_up_mt (h := by decide) | apply va_up_ms | apply pk_ut (h := by omega) | apply pk_uLt (h := by omega) | exact pk_us | exact pk_uLs | assumption)); all_goals rfl) hN2 hs (by (repeat (first | apply va_up_mt (h := by decide) | apply va_up_ms | apply pk_ut (h := by omega) | apply pk_uLt (h := by omega) | exact pk_us | exact pk_uLs | assumption)); all_goals rfl)) (by omega) (Nat.le_of_ble_eq_true rfl) (by omega) (by omega) ?_
    rintro _ G ⟨rfl, hG⟩
    have g26 : mw_M (va_up M 33 (upd (M 33) s 1)) r N li 26 s = nI v := h26
    refine ev_aload_n d_Mo_setting_15 rfl rfl ?_
    refine em_getA (i := 57) hG d_Mo_setting_16 fo_Mo_118 rfl ?_
    refine ev_aload_n d_Mo_setting_19 rfl rfl ?_
    refine em_getA (i := 26) hG d_Mo_setting_20 fo_Mo_53 rfl ?_
    refine ev_iload_n d_Mo_setting_23 rfl rfl ?_
    refine em_iald (i := 26) (N := 1200) hG d_Mo_setting_24 rfl rfl (by decide) (by omega) (by (repeat (first | apply va_up_mt (h := by decide) | apply va_up_ms | apply pk_ut (h := by omega) | apply pk_uLt (h := by omega) | exact pk_us | exact pk_uLs | assumption)); all_goals rfl) ?_
    refine ev_lload_n d_Mo_setting_25 rfl rfl ?_
    refine em_last (i := 57) (N := 21) hG d_Mo_setting_26 rfl rfl (by decide) (by omega) (fun G hG => ?_)
    refine ev_aload_n d_Mo_setting_27 rfl rfl ?_
    refine em_getA (i := 58) hG d_Mo_setting_28 fo_Mo_121 rfl ?_
    refine ev_aload_n d_Mo_setting_31 rfl rfl ?_
    refine em_getA (i := 26) hG d_Mo_setting_32 fo_Mo_53 rfl ?_
    refine ev_iload_n d_Mo_setting_35 rfl rfl ?_
    refine em_iald (i := 26) (N := 1200) hG d_Mo_setting_36 rfl rfl (by decide) (by omega) (by (repeat (first | apply va_up_mt (h := by decide) | apply va_up_ms | apply pk_ut (h := by omega) | apply pk_uLt (h := by omega) | exact pk_us | exact pk_uLs | assumption)); all_goals rfl) ?_
    refine ev_aload_n d_Mo_setting_37 rfl rfl ?_
    refine em_getJ (i := 52) hG d_Mo_setting_38 fo_Mo_243 rfl (by (repeat (first | apply va_up_t (h := by decide) | apply mo_w_t (h5 := by decide) (h7 := by decide) (h8 := by decide) | exact va_up_s | exact mo_w_5 | exact mo_w_7 | exact mo_w_8 | assumption)); all_goals rfl) ?_
    refine em_last (i := 58) (N := 21) hG d_Mo_setting_41 rfl rfl (by decide) (by omega) (fun G hG => ?_)
    exact ev_vret d_Mo_setting_42 rfl (⟨rfl, Or.inr ⟨hN2, hG⟩⟩)
/-- a test is left -/
def lv_I (I : Nat → Int32) (N : Nat) : Nat → Int32 := if I 51 < 0 then va_up I 51 (nI (N - 1)) else I
set_option maxHeartbeats 1000000 in
theorem c_Mo_leave {p : Prop} {ve w : Int32} (hG : mo_at G0 a A I J M W G) (h44 : I 44 = nI (r + 1)) (hr : r < 8) (h45 : M 45 r = nI N) (hN : 0 < N) (ht : t ≤ 12) (h20 : M 20 t = w) (h54 : I 54 = li) : cn_M l X m_Mo_leave 0 0 0 [.ref a, .int (cI p), .int ve, .int (nI t)] G (fun y G' => y = none ∧ ((¬ p ∧ mo_at G0 a A I J M W G') ∨ (p ∧ 0 < w ∧ mo_at G0 a A (va_up I 55 1) J M W G') ∨ (p ∧ ¬ 0 < w ∧ mo_at G0 a A (lv_I (va_up I 55 1) N) J (va_up (va_up M 20 (upd (M 20) t ve)) 21 (upd (M 21) t li)) (va_up W 22 (vp_updL (W 22) t (J 52))) G'))) := by
  refine cn_in rfl (Nat.le_of_ble_eq_true rfl) ?_
  refine ev_iload_n d_Mo_leave_0 rfl rfl ?_
  refine ev_if_ne 5 d_Mo_leave_1 (by decide) (fun hp => ?_) (fun hp => ?_)
  · have hp := cI_1 hp
    refine ev_aload_n d_Mo_leave_5 rfl rfl ?_
    refine ev_iconst (v := 1) d_Mo_leave_6 (by decide) ?_
    refine em_putI (i := 55) hG d_Mo_leave_7 fo_Mo_253 rfl rfl (by decide) mv_55 (fun G hG => ?_)
    refine ev_aload_n d_Mo_leave_10 rfl rfl ?_
    refine em_getA (i := 20) hG d_Mo_leave_11 fo_Mo_37 rfl ?_
    refine ev_iload_n d_Mo_leave_14 rfl rfl ?_
    refine em_iald (i := 20) (N := 13) hG d_Mo_leave_15 rfl rfl (by decide) (by omega) (by (repeat (first | apply va_up_mt (h := by decide) | apply va_up_ms | apply pk_ut (h := by omega) | apply pk_uLt (h := by omega) | exact pk_us | exact pk_uLs | assumption)); all_goals rfl) ?_
    by_cases hw : 0 < w
    · refine ev_if_le 20 d_Mo_leave_16 (by decide) (fun z => absurd z (Int32.not_le.mpr hw)) (fun _ => ?_)
      exact ev_vret d_Mo_leave_19 rfl (⟨rfl, Or.inr (Or.inl ⟨hp, hw, hG⟩)⟩)
    · refine ev_if_le 20 d_Mo_leave_16 (by decide) (fun _ => ?_) (fun z => absurd (Int32.not_le.mp z) hw)
      refine ev_aload_n d_Mo_leave_20 rfl rfl ?_
      refine em_getA (i := 20) hG d_Mo_leave_21 fo_Mo_37 rfl ?_
      refine ev_iload_n d_Mo_leave_24 rfl rfl ?_
      refine ev_iload_n d_Mo_leave_25 rfl rfl ?_
      refine em_iast (i := 20) (N := 13) hG d_Mo_leave_26 rfl rfl (by decide) (by omega) (fun G hG => ?_)
      refine ev_aload_n d_Mo_leave_27 rfl rfl ?_
      refine em_getA (i := 21) hG d_Mo_leave_28 fo_Mo_40 rfl ?_
      refine ev_iload_n d_Mo_leave_31 rfl rfl ?_
      refine ev_aload_n d_Mo_leave_32 rfl rfl ?_
      refine em_getI (i := 54) hG d_Mo_leave_33 fo_Mo_256 rfl (by (repeat (first | apply va_up_t (h := by decide) | apply mo_w_t (h5 := by decide) (h7 := by decide) (h8 := by decide) | exact va_up_s | exact mo_w_5 | exact mo_w_7 | exact mo_w_8 | assumption)); all_goals rfl) ?_
      refine em_iast (i := 21) (N := 13) hG d_Mo_leave_36 rfl rfl (by decide) (by omega) (fun G hG => ?_)
      refine ev_aload_n d_Mo_leave_37 rfl rfl ?_
      refine em_getA (i := 22) hG d_Mo_leave_38 fo_Mo_43 rfl ?_
      refine ev_iload_n d_Mo_leave_41 rfl rfl ?_
      refine ev_aload_n d_Mo_leave_42 rfl rfl ?_
      refine em_getJ (i := 52) hG d_Mo_leave_43 fo_Mo_243 rfl (by (repeat (first | apply va_up_t (h := by decide) | apply mo_w_t (h5 := by decide) (h7 := by decide) (h8 := by decide) | exact va_up_s | exact mo_w_5 | exact mo_w_7 | exact mo_w_8 | assumption)); all_goals rfl) ?_
      refine em_last (i := 22) (N := 13) hG d_Mo_leave_46 rfl rfl (by decide) (by omega) (fun G hG => ?_)
      refine ev_aload_n d_Mo_leave_47 rfl rfl ?_
      refine em_getI (i := 51) hG d_Mo_leave_48 fo_Mo_266 rfl (by (repeat (first | apply va_up_t (h := by decide) | apply mo_w_t (h5 := by decide) (h7 := by decide) (h8 := by decide) | exact va_up_s | exact mo_w_5 | exact mo_w_7 | exact mo_w_8 | assumption)); all_goals rfl) ?_
      by_cases h51 : va_up I 55 1 51 < 0
      · refine ev_if_ge 71 d_Mo_leave_51 (by decide) (fun z => absurd h51 (Int32.not_lt.mpr z)) (fun _ => ?_)
        refine ev_aload_n d_Mo_leave_54 rfl rfl ?_
        refine ev_aload_n d_Mo_leave_55 rfl rfl ?_
        refine em_getA (i := 45) hG d_Mo_leave_56 fo_Mo_100 rfl ?_
        refine ev_aload_n d_Mo_leave_59 rfl rfl ?_
        refine em_getI (i := 44) hG d_Mo_leave_60 fo_Mo_232 rfl (by (repeat (first | apply va_up_t (h := by decide) | apply mo_w_t (h5 := by decide) (h7 := by decide) (h8 := by decide) | exact va_up_s | exact mo_w_5 | exact mo_w_7 | exact mo_w_8 | assumption)); all_goals rfl) ?_
        refine ev_iconst (v := 1) d_Mo_leave_63 (by decide) ?_
        refine ev_isub d_Mo_leave_64 ?_
        rw [show (nI (r + 1) - 1 : Int32) = nI r from nI_pred r]
        refine em_iald (i := 45) (N := 8) hG d_Mo_leave_65 rfl rfl (by decide) (by omega) (by (repeat (first | apply va_up_mt (h := by decide) | apply va_up_ms | apply pk_ut (h := by omega) | apply pk_uLt (h := by omega) | exact pk_us | exact pk_uLs | assumption)); all_goals rfl) ?_
        refine ev_iconst (v := 1) d_Mo_leave_66 (by decide) ?_
        refine ev_isub d_Mo_leave_67 ?_
        rw [show (nI N - 1 : Int32) = nI (N - 1) from pk_sub (b := 1) hN]
        refine em_putI (i := 51) hG d_Mo_leave_68 fo_Mo_266 rfl rfl (by decide) mv_51 (fun G hG => ?_)
        refine ev_vret d_Mo_leave_71 rfl ⟨rfl, Or.inr (Or.inr ⟨hp, hw, ?_⟩)⟩
        rw [show lv_I (va_up I 55 1) N = va_up (va_up I 55 1) 51 (nI (N - 1)) from if_pos h51]
        exact hG
      · refine ev_if_ge 71 d_Mo_leave_51 (by decide) (fun _ => ?_) (fun z => absurd (Int32.not_le.mp z) h51)
        refine ev_vret d_Mo_leave_71 rfl ⟨rfl, Or.inr (Or.inr ⟨hp, hw, ?_⟩)⟩
        rw [show lv_I (va_up I 55 1) N = va_up I 55 1 from if_neg h51]
        exact hG
  · have hp := cI_0 hp
    exact ev_vret d_Mo_leave_4 rfl (⟨rfl, Or.inl ⟨hp, hG⟩⟩)
end MW
