/-! THE MODEL: sign, differ -/
theorem sh_and {c K : Int32} {U : UInt32} {k : Nat} (hk : k ≤ 24) (h1 : (K.toBitVec.smod 32).toNat = k) (h2 : (U.toBitVec % 32).toNat = k) : (c >>> K) &&& 255 = (c.toUInt32 >>> U).toInt32 &&& 255 := by
  apply Int32.toBitVec_inj.mp
  rw [Int32.toBitVec_and, Int32.toBitVec_and]
  apply BitVec.eq_of_getLsbD_eq
  intro i hi
  rw [BitVec.getLsbD_and, BitVec.getLsbD_and]
  by_cases q : i < 8
  · congr 1
    show ((c >>> K).toBitVec).getLsbD i = (c.toUInt32 >>> U).toBitVec.getLsbD i
    have e1 : (c >>> K).toBitVec = c.toBitVec.sshiftRight k := by
      show (c.toBitVec.sshiftRight' (K.toBitVec.smod 32)) = _
      rw [BitVec.sshiftRight', h1]
    have e2 : (c.toUInt32 >>> U).toBitVec = c.toBitVec >>> k := by
      show c.toBitVec >>> (U.toBitVec % 32) = _
      rw [BitVec.ushiftRight_eq', h2]
    rw [e1, e2, BitVec.getLsbD_sshiftRight, BitVec.getLsbD_ushiftRight]
    simp [show k + i < 32 by omega, hi]
  · have : (255 : Int32).toBitVec.getLsbD i = false := by
      have : ∀ i, i < 32 → 8 ≤ i → (255 : Int32).toBitVec.getLsbD i = false := by decide
      exact this i hi (by omega)
    rw [this, Bool.and_false, Bool.and_false]
theorem sg3 {c : Int32} : (c.toUInt32 >>> ((24 : Int32).toUInt32 &&& Int32.toUInt32 31)).toInt32 &&& 255 = sg_b3 c := by
  unfold sg_b3
  apply Int32.toBitVec_inj.mp
  rw [Int32.toBitVec_and]
  apply BitVec.eq_of_toNat_eq
  rw [BitVec.toNat_and]
  show (c.toBitVec >>> (((24 : Int32).toUInt32 &&& Int32.toUInt32 31).toBitVec % 32)).toNat &&& 255 = (c.toBitVec >>> (((24 : Int32).toUInt32 &&& Int32.toUInt32 31).toBitVec % 32)).toNat
  rw [show (((24 : Int32).toUInt32 &&& Int32.toUInt32 31).toBitVec % 32) = 24#32 by decide, BitVec.ushiftRight_eq', BitVec.toNat_ushiftRight, show (24#32).toNat = 24 by decide, Nat.shiftRight_eq_div_pow, show (255 : Nat) = 2 ^ 8 - 1 by decide, Nat.and_two_pow_sub_one_eq_mod]
  have := c.toBitVec.isLt
  omega
/-- a sign more in the model -/
def sg_m (x : Int32) (q : Nat × (Nat → Int32)) : Nat × (Nat → Int32) := if x < 1 ∨ 127 < x ∨ 4000 ≤ q.1 then q else (q.1 + 1, upd q.2 q.1 x)
theorem sg_m_is {x : Int32} {q : Nat × (Nat → Int32)} : sg_add x q = sg_m x q := by
  unfold sg_add sg_m
  by_cases h : x < 1 ∨ 127 < x ∨ 4000 ≤ q.1
  · rw [if_pos h, if_pos h]
  · rw [if_neg h, if_neg h]
    obtain ⟨b, b1, b2, b3⟩ := i32_of (x := x) (a := 1) (b := 127) (Int32.not_lt.mp (fun y => h (Or.inl y))) (Int32.not_lt.mp (fun y => h (Or.inr (Or.inl y)))) (by omega) (by omega)
    have : ∀ b, b < 128 → vp_nar .byte (nI b).toInt8.toInt32 = nI b := by decide +kernel
    rw [b3, this b (by omega)]
section M3
variable {l : Launch} {X : pm_X} {G G0 : pm_G} {a : Nat} {A : Nat → Nat} {I : Nat → Int32} {J : Nat → Int64} {M : Nat → Nat → Int32} {W : Nat → Nat → Int64} {sc rc : Nat} {c x y : Int32} {D : Nat → tr_D} {sf : Nat → Int32}
theorem sg_m_le {x : Int32} {q : Nat × (Nat → Int32)} (h : q.1 ≤ 4000) : (sg_m x q).1 ≤ 4000 := by
  unfold sg_m
  split
  · exact h
  · rename_i w
    have : ¬ 4000 ≤ q.1 := fun y => w (Or.inr (Or.inr y))
    show q.1 + 1 ≤ 4000
    omega
set_option maxHeartbeats 1000000 in
theorem c_Mo_sign (hG : mo_at G0 a A I J M W G) (h1 : I 1 = nI sc) (hsc : sc ≤ 4000) : cn_M l X m_Mo_sign 0 0 0 [.ref a, .int c] G (fun r G' => r = none ∧ mo_at G0 a A (va_up (va_up I 0 0) 1 (nI (sg_4 c (sc, M 2)).1)) J (va_up M 2 (sg_4 c (sc, M 2)).2) W G') := by
  refine cn_in rfl (Nat.le_of_ble_eq_true rfl) ?_
  have step : ∀ (k b : Nat) (x : Int32) (q : Nat × (Nat → Int32)) (G : pm_G), k < 4 → b < 256 → x = nI b → q.1 ≤ 4000 → mo_at G0 a A (va_up (va_up I 0 0) 1 (nI q.1)) J (va_up M 2 q.2) W G → (∀ (G : pm_G), mo_at G0 a A (va_up (va_up I 0 0) 1 (nI (sg_m x q).1)) J (va_up M 2 (sg_m x q).2) W G → ev_W l X m_Mo_sign 0 0 0 (fun r G' => r = none ∧ mo_at G0 a A (va_up (va_up I 0 0) 1 (nI (sg_4 c (sc, M 2)).1)) J (va_up M 2 (sg_4 c (sc, M 2)).2) W G') 0 0 7 [(0, .ref a), (1, .int c), (2, .int (nI (k + 1)))] [] G) → ev_W l X m_Mo_sign 0 0 0 (fun r G' => r = none ∧ mo_at G0 a A (va_up (va_up I 0 0) 1 (nI (sg_4 c (sc, M 2)).1)) J (va_up M 2 (sg_4 c (sc, M 2)).2) W G') 0 0 25 [(0, .ref a), (1, .int c), (2, .int (nI k))] [.int x] G := by
    intro k b x q G hk hb hx hq hG kk
    subst hx
    have skip : (nI b < 1 ∨ 127 < nI b ∨ 4000 ≤ q.1) → ev_W l X m_Mo_sign 0 0 0 (fun r G' => r = none ∧ mo_at G0 a A (va_up (va_up I 0 0) 1 (nI (sg_4 c (sc, M 2)).1)) J (va_up M 2 (sg_4 c (sc, M 2)).2) W G') 0 0 69 [(0, .ref a), (1, .int c), (2, .int (nI k)), (3, .int (nI b))] [] G := by
      intro w
      refine ev_iinc d_Mo_sign_69 rfl (by first | exact nI_1 _ | rfl) (by decide) ?_
      refine ev_goto 7 d_Mo_sign_72 (by decide) ?_
      refine ev_keep [0, 1, 2] ?_
      refine kk G ?_
      rw [show sg_m (nI b) q = q from if_pos w]
      exact hG
    refine ev_istore_n d_Mo_sign_25 rfl (by decide) ?_
    refine ev_iload_n d_Mo_sign_26 rfl rfl ?_
    refine ev_if_eq 69 d_Mo_sign_27 (by decide) (fun g1 => ?_) (fun g1 => ?_)
    · exact skip (Or.inl (by rw [g1]; decide))
    · have b0 : 0 < b := by
        rcases Nat.eq_zero_or_pos b with w | w
        · rw [w] at g1; exact absurd rfl g1
        · exact w
      refine ev_iload_n d_Mo_sign_30 rfl rfl ?_
      refine ev_bipush (v := 127) d_Mo_sign_31 (by decide) ?_
      refine ev_icmp_gt 69 d_Mo_sign_33 (by decide) (fun g2 => ?_) (fun g2 => ?_)
      · exact skip (Or.inr (Or.inl g2))
      · refine ev_aload_n d_Mo_sign_36 rfl rfl ?_
        refine em_getI (i := 1) hG d_Mo_sign_37 fo_Mo_131 rfl (by (repeat (first | apply va_up_t (h := by decide) | apply mo_w_t (h5 := by decide) (h7 := by decide) (h8 := by decide) | exact va_up_s | exact mo_w_5 | exact mo_w_7 | exact mo_w_8 | assumption)); all_goals rfl) ?_
        refine ev_sipush (v := 4000) d_Mo_sign_40 (by decide) ?_
        refine ev_icmp_ne 49 d_Mo_sign_43 (by decide) (fun g3 => ?_) (fun g3 => ?_)
        · have g3 : q.1 < 4000 := by
            rcases Nat.lt_or_ge q.1 4000 with w | w
            · exact w
            · exact absurd (by rw [show q.1 = 4000 by omega]; rfl) g3
          refine ev_aload_n d_Mo_sign_49 rfl rfl ?_
          refine em_getA (i := 2) hG d_Mo_sign_50 fo_Mo_7 rfl ?_
          refine ev_aload_n d_Mo_sign_53 rfl rfl ?_
          refine em_getI (i := 1) hG d_Mo_sign_54 fo_Mo_131 rfl (by (repeat (first | apply va_up_t (h := by decide) | apply mo_w_t (h5 := by decide) (h7 := by decide) (h8 := by decide) | exact va_up_s | exact mo_w_5 | exact mo_w_7 | exact mo_w_8 | assumption)); all_goals rfl) ?_
          refine ev_iload_n d_Mo_sign_57 rfl rfl ?_
          refine em_iast (i := 2) (N := 4000) hG d_Mo_sign_58 rfl rfl (by decide) (by omega) (fun G hG => ?_)
          refine ev_aload_n d_Mo_sign_59 rfl rfl ?_
          refine ev_dup d_Mo_sign_60 rfl ?_
          refine em_getI (i := 1) hG d_Mo_sign_61 fo_Mo_131 rfl (by (repeat (first | apply va_up_t (h := by decide) | apply mo_w_t (h5 := by decide) (h7 := by decide) (h8 := by decide) | exact va_up_s | exact mo_w_5 | exact mo_w_7 | exact mo_w_8 | assumption)); all_goals rfl) ?_
          refine ev_iconst (v := 1) d_Mo_sign_64 (by decide) ?_
          refine ev_iadd d_Mo_sign_65 ?_
          rw [nI_1]
          refine em_putI (i := 1) hG d_Mo_sign_66 fo_Mo_131 rfl rfl (by decide) mv_1 (fun G hG => ?_)
          refine ev_iinc d_Mo_sign_69 rfl (by first | exact nI_1 _ | rfl) (by decide) ?_
          refine ev_goto 7 d_Mo_sign_72 (by decide) ?_
          rw [va_up2, va_up2, va_up_s] at hG
          refine ev_keep [0, 1, 2] ?_
          refine kk G ?_
          rw [show sg_m (nI b) q = (q.1 + 1, upd q.2 q.1 (nI b)) from if_neg (fun w => by
            rcases w with w | w | w
            · exact absurd w (nI_nlt (a := b) (b := 1) b0 (by omega))
            · exact g2 w
            · omega)]
          exact hG
        · have g3 : q.1 = 4000 := (nI_eq (by omega) (b := 4000) (by omega)).mp g3
          refine ev_goto 69 d_Mo_sign_46 (by decide) ?_
          refine ev_keep [0, 1, 2, 3] ?_
          exact skip (Or.inr (Or.inr (by omega)))
  have s3 : ∀ (x : Int32), ∃ b, b < 256 ∧ x &&& 255 = nI b := fun x => pk_andE x 8 (by decide)
  have e3 : c >>> ((24 - 8 * nI 0) &&& 31) &&& 255 = sg_b3 c := by rw [show ((24 - 8 * nI 0) &&& 31 : Int32) = 24 by decide, sh_and (U := (24 : Int32).toUInt32 &&& Int32.toUInt32 31) (k := 24) (by omega) (by decide) (by decide)]; exact sg3
  have e2 : c >>> ((24 - 8 * nI 1) &&& 31) &&& 255 = sg_b2 c := by rw [show ((24 - 8 * nI 1) &&& 31 : Int32) = 16 by decide, sh_and (U := (16 : Int32).toUInt32 &&& Int32.toUInt32 31) (k := 16) (by omega) (by decide) (by decide)]; rfl
  have e1 : c >>> ((24 - 8 * nI 2) &&& 31) &&& 255 = sg_b1 c := by rw [show ((24 - 8 * nI 2) &&& 31 : Int32) = 8 by decide, sh_and (U := (8 : Int32).toUInt32 &&& Int32.toUInt32 31) (k := 8) (by omega) (by decide) (by decide)]; rfl
  have e0 : c >>> ((24 - 8 * nI 3) &&& 31) &&& 255 = c &&& 255 := by rw [show ((24 - 8 * nI 3) &&& 31 : Int32) = 0 &&& 31 by decide, sb_shr0]
  have e4 : sg_4 c (sc, M 2) = sg_m (c &&& 255) (sg_m (sg_b1 c) (sg_m (sg_b2 c) (sg_m (sg_b3 c) (sc, M 2)))) := by
    unfold sg_4
    rw [sg_m_is, sg_m_is, sg_m_is, sg_m_is]
  have l1 : (sg_m (sg_b3 c) (sc, M 2)).1 ≤ 4000 := sg_m_le hsc
  have l2 : (sg_m (sg_b2 c) (sg_m (sg_b3 c) (sc, M 2))).1 ≤ 4000 := sg_m_le l1
  have l3 : (sg_m (sg_b1 c) (sg_m (sg_b2 c) (sg_m (sg_b3 c) (sc, M 2)))).1 ≤ 4000 := sg_m_le l2
  refine ev_aload_n d_Mo_sign_0 rfl rfl ?_
  refine ev_iconst (v := 0) d_Mo_sign_1 (by decide) ?_
  refine em_putI (i := 0) hG d_Mo_sign_2 fo_Mo_127 rfl rfl (by decide) mv_0 (fun G hG => ?_)
  refine ev_iconst (v := 0) d_Mo_sign_5 (by decide) ?_
  refine ev_istore_n d_Mo_sign_6 rfl (by decide) ?_
  show ev_W l X m_Mo_sign 0 0 0 (fun r G' => r = none ∧ mo_at G0 a A (va_up (va_up I 0 0) 1 (nI (sg_4 c (sc, M 2)).1)) J (va_up M 2 (sg_4 c (sc, M 2)).2) W G') 0 0 7 [(0, .ref a), (1, .int c), (2, .int (nI 0))] [] G
  refine ev_iload_n d_Mo_sign_7 rfl rfl ?_
  refine ev_iconst (v := 4) d_Mo_sign_8 (by decide) ?_
  refine ev_icmp_ge 75 d_Mo_sign_9 (by decide) (fun w => absurd (show (4 : Int32) ≤ nI 0 from w) (by decide)) (fun _ => ?_)
  refine ev_iload_n d_Mo_sign_12 rfl rfl ?_
  refine ev_bipush (v := 24) d_Mo_sign_13 (by decide) ?_
  refine ev_bipush (v := 8) d_Mo_sign_15 (by decide) ?_
  refine ev_iload_n d_Mo_sign_17 rfl rfl ?_
  refine ev_imul d_Mo_sign_18 ?_
  refine ev_isub d_Mo_sign_19 ?_
  refine ev_ishr d_Mo_sign_20 ?_
  refine ev_sipush (v := 255) d_Mo_sign_21 (by decide) ?_
  refine ev_iand d_Mo_sign_24 ?_
  obtain ⟨b, b1, b2⟩ := s3 (c >>> ((24 - 8 * nI 0) &&& 31))
  refine step 0 b _ (sc, M 2) G (by omega) b1 b2 hsc (by rw [← h1, va_up0]; exact (show va_up (va_up I 0 0) 1 (va_up I 0 0 1) = va_up I 0 0 from va_up0) ▸ hG) (fun G hG => ?_)
  rw [e3] at hG
  show ev_W l X m_Mo_sign 0 0 0 (fun r G' => r = none ∧ mo_at G0 a A (va_up (va_up I 0 0) 1 (nI (sg_4 c (sc, M 2)).1)) J (va_up M 2 (sg_4 c (sc, M 2)).2) W G') 0 0 7 [(0, .ref a), (1, .int c), (2, .int (nI 1))] [] G
  refine ev_iload_n d_Mo_sign_7 rfl rfl ?_
  refine ev_iconst (v := 4) d_Mo_sign_8 (by decide) ?_
  refine ev_icmp_ge 75 d_Mo_sign_9 (by decide) (fun w => absurd (show (4 : Int32) ≤ nI 1 from w) (by decide)) (fun _ => ?_)
  refine ev_iload_n d_Mo_sign_12 rfl rfl ?_
  refine ev_bipush (v := 24) d_Mo_sign_13 (by decide) ?_
  refine ev_bipush (v := 8) d_Mo_sign_15 (by decide) ?_
  refine ev_iload_n d_Mo_sign_17 rfl rfl ?_
  refine ev_imul d_Mo_sign_18 ?_
  refine ev_isub d_Mo_sign_19 ?_
  refine ev_ishr d_Mo_sign_20 ?_
  refine ev_sipush (v := 255) d_Mo_sign_21 (by decide) ?_
  refine ev_iand d_Mo_sign_24 ?_
  obtain ⟨b, b1, b2⟩ := s3 (c >>> ((24 - 8 * nI 1) &&& 31))
  refine step 1 b _ (sg_m (sg_b3 c) (sc, M 2)) G (by omega) b1 b2 l1 hG (fun G hG => ?_)
  rw [e2] at hG
  show ev_W l X m_Mo_sign 0 0 0 (fun r G' => r = none ∧ mo_at G0 a A (va_up (va_up I 0 0) 1 (nI (sg_4 c (sc, M 2)).1)) J (va_up M 2 (sg_4 c (sc, M 2)).2) W G') 0 0 7 [(0, .ref a), (1, .int c), (2, .int (nI 2))] [] G
  refine ev_iload_n d_Mo_sign_7 rfl rfl ?_
  refine ev_iconst (v := 4) d_Mo_sign_8 (by decide) ?_
  refine ev_icmp_ge 75 d_Mo_sign_9 (by decide) (fun w => absurd (show (4 : Int32) ≤ nI 2 from w) (by decide)) (fun _ => ?_)
  refine ev_iload_n d_Mo_sign_12 rfl rfl ?_
  refine ev_bipush (v := 24) d_Mo_sign_13 (by decide) ?_
  refine ev_bipush (v := 8) d_Mo_sign_15 (by decide) ?_
  refine ev_iload_n d_Mo_sign_17 rfl rfl ?_
  refine ev_imul d_Mo_sign_18 ?_
  refine ev_isub d_Mo_sign_19 ?_
  refine ev_ishr d_Mo_sign_20 ?_
  refine ev_sipush (v := 255) d_Mo_sign_21 (by decide) ?_
  refine ev_iand d_Mo_sign_24 ?_
  obtain ⟨b, b1, b2⟩ := s3 (c >>> ((24 - 8 * nI 2) &&& 31))
  refine step 2 b _ (sg_m (sg_b2 c) (sg_m (sg_b3 c) (sc, M 2))) G (by omega) b1 b2 l2 hG (fun G hG => ?_)
  rw [e1] at hG
  show ev_W l X m_Mo_sign 0 0 0 (fun r G' => r = none ∧ mo_at G0 a A (va_up (va_up I 0 0) 1 (nI (sg_4 c (sc, M 2)).1)) J (va_up M 2 (sg_4 c (sc, M 2)).2) W G') 0 0 7 [(0, .ref a), (1, .int c), (2, .int (nI 3))] [] G
  refine ev_iload_n d_Mo_sign_7 rfl rfl ?_
  refine ev_iconst (v := 4) d_Mo_sign_8 (by decide) ?_
  refine ev_icmp_ge 75 d_Mo_sign_9 (by decide) (fun w => absurd (show (4 : Int32) ≤ nI 3 from w) (by decide)) (fun _ => ?_)
  refine ev_iload_n d_Mo_sign_12 rfl rfl ?_
  refine ev_bipush (v := 24) d_Mo_sign_13 (by decide) ?_
  refine ev_bipush (v := 8) d_Mo_sign_15 (by decide) ?_
  refine ev_iload_n d_Mo_sign_17 rfl rfl ?_
  refine ev_imul d_Mo_sign_18 ?_
  refine ev_isub d_Mo_sign_19 ?_
  refine ev_ishr d_Mo_sign_20 ?_
  refine ev_sipush (v := 255) d_Mo_sign_21 (by decide) ?_
  refine ev_iand d_Mo_sign_24 ?_
  obtain ⟨b, b1, b2⟩ := s3 (c >>> ((24 - 8 * nI 3) &&& 31))
  refine step 3 b _ (sg_m (sg_b1 c) (sg_m (sg_b2 c) (sg_m (sg_b3 c) (sc, M 2)))) G (by omega) b1 b2 l3 hG (fun G hG => ?_)
  rw [e0] at hG
  show ev_W l X m_Mo_sign 0 0 0 (fun r G' => r = none ∧ mo_at G0 a A (va_up (va_up I 0 0) 1 (nI (sg_4 c (sc, M 2)).1)) J (va_up M 2 (sg_4 c (sc, M 2)).2) W G') 0 0 7 [(0, .ref a), (1, .int c), (2, .int (nI 4))] [] G
  refine ev_iload_n d_Mo_sign_7 rfl rfl ?_
  refine ev_iconst (v := 4) d_Mo_sign_8 (by decide) ?_
  refine ev_icmp_ge 75 d_Mo_sign_9 (by decide) (fun _ => ?_) (fun w => absurd (show (4 : Int32) ≤ nI 4 by decide) w)
  rw [← e4] at hG
  exact ev_vret d_Mo_sign_75 rfl (⟨rfl, hG⟩)
/-- the rows of run j as the model keeps them -/
def mrw (D : Nat → tr_D) (rc : Nat) (M : Nat → Nat → Int32) (W : Nat → Nat → Int64) : Prop := ∀ j, j < rc → (D j).1 ≤ 2000 ∧ M 45 j = nI (D j).1 ∧ ∀ k, k < (D j).1 → M 46 (2000 * j + k) = (D j).2.2.2.1 k ∧ W 47 (2000 * j + k) = ((D j).2.2.2.2.1 k).toInt64 ∧ W 48 (2000 * j + k) = ((D j).2.2.2.2.2.1 k).toInt64
set_option maxHeartbeats 1000000 in
theorem c_Mo_differ (hG : mo_at G0 a A I J M W G) (h44 : I 44 = nI rc) (hrc : rc ≤ 8) (hrw : mrw D rc M W) : cn_M l X m_Mo_differ 0 0 0 [.ref a, .int x, .int y] G (fun r G' => (((x < 1 ∨ nI rc < x ∨ y < 1 ∨ nI rc < y) ∧ r = some (.int (-2))) ∨ ∃ i j v, i < rc ∧ j < rc ∧ x = nI (i + 1) ∧ y = nI (j + 1) ∧ fd_R (D i) (D j) v ∧ r = some (.int v)) ∧ mo_at G0 a A (va_up I 0 0) J M W G') := by
  refine cn_in rfl (Nat.le_of_ble_eq_true rfl) ?_
  have bad : ∀ (G : pm_G), (x < 1 ∨ nI rc < x ∨ y < 1 ∨ nI rc < y) → mo_at G0 a A (va_up I 0 0) J M W G → ev_W l X m_Mo_differ 0 0 0 (fun r G' => (((x < 1 ∨ nI rc < x ∨ y < 1 ∨ nI rc < y) ∧ r = some (.int (-2))) ∨ ∃ i j v, i < rc ∧ j < rc ∧ x = nI (i + 1) ∧ y = nI (j + 1) ∧ fd_R (D i) (D j) v ∧ r = some (.int v)) ∧ mo_at G0 a A (va_up I 0 0) J M W G') 0 0 31 [(0, .ref a), (1, .int x), (2, .int y)] [] G := by
    intro G w hG
    refine ev_bipush (v := -2) d_Mo_differ_31 (by decide) ?_
    exact ev_iret d_Mo_differ_33 rfl (⟨Or.inl ⟨w, rfl⟩, hG⟩)
  refine ev_aload_n d_Mo_differ_0 rfl rfl ?_
  refine ev_iconst (v := 0) d_Mo_differ_1 (by decide) ?_
  refine em_putI (i := 0) hG d_Mo_differ_2 fo_Mo_127 rfl rfl (by decide) mv_0 (fun G hG => ?_)
  refine ev_iload_n d_Mo_differ_5 rfl rfl ?_
  refine ev_iconst (v := 1) d_Mo_differ_6 (by decide) ?_
  refine ev_icmp_lt 31 d_Mo_differ_7 (by decide) (fun h1 => ?_) (fun h1 => ?_)
  · exact bad G (Or.inl h1) hG
  · refine ev_iload_n d_Mo_differ_10 rfl rfl ?_
    refine ev_aload_n d_Mo_differ_11 rfl rfl ?_
    refine em_getI (i := 44) hG d_Mo_differ_12 fo_Mo_232 rfl (by (repeat (first | apply va_up_t (h := by decide) | apply mo_w_t (h5 := by decide) (h7 := by decide) (h8 := by decide) | exact va_up_s | exact mo_w_5 | exact mo_w_7 | exact mo_w_8 | assumption)); all_goals rfl) ?_
    refine ev_icmp_gt 31 d_Mo_differ_15 (by decide) (fun h2 => ?_) (fun h2 => ?_)
    · exact bad G (Or.inr (Or.inl h2)) hG
    · refine ev_iload_n d_Mo_differ_18 rfl rfl ?_
      refine ev_iconst (v := 1) d_Mo_differ_19 (by decide) ?_
      refine ev_icmp_lt 31 d_Mo_differ_20 (by decide) (fun h3 => ?_) (fun h3 => ?_)
      · exact bad G (Or.inr (Or.inr (Or.inl h3))) hG
      · refine ev_iload_n d_Mo_differ_23 rfl rfl ?_
        refine ev_aload_n d_Mo_differ_24 rfl rfl ?_
        refine em_getI (i := 44) hG d_Mo_differ_25 fo_Mo_232 rfl (by (repeat (first | apply va_up_t (h := by decide) | apply mo_w_t (h5 := by decide) (h7 := by decide) (h8 := by decide) | exact va_up_s | exact mo_w_5 | exact mo_w_7 | exact mo_w_8 | assumption)); all_goals rfl) ?_
        by_cases h4 : nI rc < y
        · refine ev_icmp_le 34 d_Mo_differ_28 (by decide) (fun w => absurd h4 (Int32.not_lt.mpr w)) (fun _ => ?_)
          exact bad G (Or.inr (Or.inr (Or.inr h4))) hG
        · refine ev_icmp_le 34 d_Mo_differ_28 (by decide) (fun _ => ?_) (fun w => absurd (Int32.not_le.mp w) h4)
          obtain ⟨i, i1, rfl⟩ := ix_of (fun w => w.elim h1 h2) (by omega)
          obtain ⟨j, j1, rfl⟩ := ix_of (fun w => w.elim h3 h4) (by omega)
          obtain ⟨di, mi, ri⟩ := hrw i i1
          obtain ⟨dj, mj, rj⟩ := hrw j j1
          obtain ⟨na, hna⟩ : ∃ n, n = (D i).1 := ⟨_, rfl⟩
          obtain ⟨nb, hnb⟩ : ∃ n, n = (D j).1 := ⟨_, rfl⟩
          rw [← hna] at di mi ri
          rw [← hnb] at dj mj rj
          have fin : ∀ (v : Int32), fd_R (D i) (D j) v → (fun (r : Option Value) (G' : pm_G) => (((nI (i + 1) < 1 ∨ nI rc < nI (i + 1) ∨ nI (j + 1) < 1 ∨ nI rc < nI (j + 1)) ∧ r = some (Value.int (-2))) ∨ ∃ i' j' v, i' < rc ∧ j' < rc ∧ nI (i + 1) = nI (i' + 1) ∧ nI (j + 1) = nI (j' + 1) ∧ fd_R (D i') (D j') v ∧ r = some (Value.int v)) ∧ mo_at G0 a A (va_up I 0 0) J M W G') (some (Value.int v)) G := fun v hv => ⟨Or.inr ⟨i, j, v, i1, j1, rfl, rfl, hv, rfl⟩, hG⟩
          have loop : ∀ (m k : Nat), k + m = max na nb → (∀ e, e < k → e < na ∧ e < nb ∧ (D i).2.2.2.1 e = (D j).2.2.2.1 e ∧ (D i).2.2.2.2.1 e = (D j).2.2.2.2.1 e ∧ (D i).2.2.2.2.2.1 e = (D j).2.2.2.2.2.1 e) → ev_W l X m_Mo_differ 0 0 0 (fun (r : Option Value) (G' : pm_G) => (((nI (i + 1) < 1 ∨ nI rc < nI (i + 1) ∨ nI (j + 1) < 1 ∨ nI rc < nI (j + 1)) ∧ r = some (Value.int (-2))) ∨ ∃ i' j' v, i' < rc ∧ j' < rc ∧ nI (i + 1) = nI (i' + 1) ∧ nI (j + 1) = nI (j' + 1) ∧ fd_R (D i') (D j') v ∧ r = some (Value.int v)) ∧ mo_at G0 a A (va_up I 0 0) J M W G') 0 0 94 [(0, .ref a), (1, .int (nI (i + 1))), (2, .int (nI (j + 1))), (3, .int (nI (2000 * i))), (4, .int (nI (2000 * j))), (5, .int (nI (max na nb))), (6, .int (nI k))] [] G := by
            intro m
            induction m with
            | zero =>
              intro k hk hs
              refine ev_iload d_Mo_differ_94 rfl ?_
              refine ev_iload d_Mo_differ_96 rfl ?_
              refine ev_icmp_ge 216 d_Mo_differ_98 (by decide) (fun _ => ?_) (fun w => absurd (nI_le (by omega) (by omega)) w)
              refine ev_iconst (v := -1) d_Mo_differ_216 (by decide) ?_
              have ha : na = nb := by
                rcases Nat.lt_trichotomy na nb with w | w | w
                · have := hs na (by omega); omega
                · exact w
                · have := hs nb (by omega); omega
              refine ev_iret d_Mo_differ_217 rfl (fin (-1) (Or.inr ⟨fun e e1 e2 => (hs e (by omega)).2.2, ?_⟩))
              rw [if_pos (by rw [← hna, ← hnb]; exact ha)]
            | succ m ih =>
              intro k hk hs
              have out : ∀ (g : Int32), fd_R (D i) (D j) (nI k) → ev_W l X m_Mo_differ 0 0 0 (fun (r : Option Value) (G' : pm_G) => (((nI (i + 1) < 1 ∨ nI rc < nI (i + 1) ∨ nI (j + 1) < 1 ∨ nI rc < nI (j + 1)) ∧ r = some (Value.int (-2))) ∨ ∃ i' j' v, i' < rc ∧ j' < rc ∧ nI (i + 1) = nI (i' + 1) ∧ nI (j + 1) = nI (j' + 1) ∧ fd_R (D i') (D j') v ∧ r = some (Value.int v)) ∧ mo_at G0 a A (va_up I 0 0) J M W G') 0 0 207 [(0, .ref a), (1, .int (nI (i + 1))), (2, .int (nI (j + 1))), (3, .int (nI (2000 * i))), (4, .int (nI (2000 * j))), (5, .int (nI (max na nb))), (6, .int (nI k)), (7, .int g)] [] G := by
                intro g w
                refine ev_iload d_Mo_differ_207 rfl ?_
                exact ev_iret d_Mo_differ_209 rfl (fin _ w)
              have short : (na ≤ k ∨ nb ≤ k) → fd_R (D i) (D j) (nI k) := by
                intro w
                refine Or.inr ⟨fun e e1 e2 => (hs e ?_).2.2, ?_⟩
                · rw [← hna] at e1
                  rw [← hnb] at e2
                  omega
                · rw [← hna, ← hnb]
                  have hka : k ≤ na ∧ k ≤ nb := by
                    rcases Nat.eq_zero_or_pos k with z | z
                    · omega
                    · have := hs (k - 1) (by omega); omega
                  rw [if_neg (by omega), show min na nb = k by omega]
              have zero : (na ≤ k ∨ nb ≤ k) → ev_W l X m_Mo_differ 0 0 0 (fun (r : Option Value) (G' : pm_G) => (((nI (i + 1) < 1 ∨ nI rc < nI (i + 1) ∨ nI (j + 1) < 1 ∨ nI rc < nI (j + 1)) ∧ r = some (Value.int (-2))) ∨ ∃ i' j' v, i' < rc ∧ j' < rc ∧ nI (i + 1) = nI (i' + 1) ∧ nI (j + 1) = nI (j' + 1) ∧ fd_R (D i') (D j') v ∧ r = some (Value.int v)) ∧ mo_at G0 a A (va_up I 0 0) J M W G') 0 0 131 [(0, .ref a), (1, .int (nI (i + 1))), (2, .int (nI (j + 1))), (3, .int (nI (2000 * i))), (4, .int (nI (2000 * j))), (5, .int (nI (max na nb))), (6, .int (nI k))] [] G := by
                intro w
                refine ev_iconst (v := 0) d_Mo_differ_131 (by decide) ?_
                refine ev_istore d_Mo_differ_132 (by decide) ?_
                refine ev_iload d_Mo_differ_134 rfl ?_
                refine ev_if_eq 207 d_Mo_differ_136 (by decide) (fun _ => ?_) (fun w => absurd rfl w)
                exact out 0 (short w)
              refine ev_iload d_Mo_differ_94 rfl ?_
              refine ev_iload d_Mo_differ_96 rfl ?_
              refine ev_icmp_ge 216 d_Mo_differ_98 (by decide) (fun w => absurd w (nI_ge (by omega) (by omega))) (fun _ => ?_)
              refine ev_iload d_Mo_differ_101 rfl ?_
              refine ev_aload_n d_Mo_differ_103 rfl rfl ?_
              refine em_getA (i := 45) hG d_Mo_differ_104 fo_Mo_100 rfl ?_
              refine ev_iload_n d_Mo_differ_107 rfl rfl ?_
              refine ev_iconst (v := 1) d_Mo_differ_108 (by decide) ?_
              refine ev_isub d_Mo_differ_109 ?_
              rw [nI_pred]
              refine em_iald (i := 45) (N := 8) hG d_Mo_differ_110 rfl rfl (by decide) (by omega) (by (repeat (first | apply va_up_mt (h := by decide) | apply va_up_ms | apply pk_ut (h := by omega) | apply pk_uLt (h := by omega) | exact pk_us | exact pk_uLs | assumption)); all_goals rfl) ?_
              refine ev_icmp_ge 131 d_Mo_differ_111 (by decide) (fun c1 => ?_) (fun c1 => ?_)
              · exact zero (Or.inl ((nI_leI (by omega) (by omega)).mp c1))
              · have c1 : k < na := Nat.not_le.mp (fun w => c1 (nI_le w (by omega)))
                refine ev_iload d_Mo_differ_114 rfl ?_
                refine ev_aload_n d_Mo_differ_116 rfl rfl ?_
                refine em_getA (i := 45) hG d_Mo_differ_117 fo_Mo_100 rfl ?_
                refine ev_iload_n d_Mo_differ_120 rfl rfl ?_
                refine ev_iconst (v := 1) d_Mo_differ_121 (by decide) ?_
                refine ev_isub d_Mo_differ_122 ?_
                rw [nI_pred]
                refine em_iald (i := 45) (N := 8) hG d_Mo_differ_123 rfl rfl (by decide) (by omega) (by (repeat (first | apply va_up_mt (h := by decide) | apply va_up_ms | apply pk_ut (h := by omega) | apply pk_uLt (h := by omega) | exact pk_us | exact pk_uLs | assumption)); all_goals rfl) ?_
                refine ev_icmp_ge 131 d_Mo_differ_124 (by decide) (fun c2 => ?_) (fun c2 => ?_)
                · exact zero (Or.inr ((nI_leI (by omega) (by omega)).mp c2))
                · have c2 : k < nb := Nat.not_le.mp (fun w => c2 (nI_le w (by omega)))
                  obtain ⟨x1, x2, x3⟩ := ri k c1
                  obtain ⟨y1, y2, y3⟩ := rj k c2
                  have diff : ¬ ((D i).2.2.2.1 k = (D j).2.2.2.1 k ∧ (D i).2.2.2.2.1 k = (D j).2.2.2.2.1 k ∧ (D i).2.2.2.2.2.1 k = (D j).2.2.2.2.2.1 k) → fd_R (D i) (D j) (nI k) := fun w => Or.inl ⟨k, by rw [← hna]; exact c1, by rw [← hnb]; exact c2, fun e he => (hs e he).2.2, w, rfl⟩
                  refine ev_iconst (v := 1) d_Mo_differ_127 (by decide) ?_
                  refine ev_goto 132 d_Mo_differ_128 (by decide) ?_
                  refine ev_istore d_Mo_differ_132 (by decide) ?_
                  refine ev_iload d_Mo_differ_134 rfl ?_
                  refine ev_if_eq 207 d_Mo_differ_136 (by decide) (fun w => absurd w (by decide)) (fun _ => ?_)
                  refine ev_aload_n d_Mo_differ_139 rfl rfl ?_
                  refine em_getA (i := 46) hG d_Mo_differ_140 fo_Mo_103 rfl ?_
                  refine ev_iload_n d_Mo_differ_143 rfl rfl ?_
                  refine ev_iload d_Mo_differ_144 rfl ?_
                  refine ev_iadd d_Mo_differ_146 ?_
                  rw [nI_add]
                  refine em_iald (i := 46) (N := 16000) hG d_Mo_differ_147 rfl rfl (by decide) (by omega) (by (repeat (first | apply va_up_mt (h := by decide) | apply va_up_ms | apply pk_ut (h := by omega) | apply pk_uLt (h := by omega) | exact pk_us | exact pk_uLs | assumption)); all_goals rfl) ?_
                  refine ev_aload_n d_Mo_differ_148 rfl rfl ?_
                  refine em_getA (i := 46) hG d_Mo_differ_149 fo_Mo_103 rfl ?_
                  refine ev_iload d_Mo_differ_152 rfl ?_
                  refine ev_iload d_Mo_differ_154 rfl ?_
                  refine ev_iadd d_Mo_differ_156 ?_
                  rw [nI_add]
                  refine em_iald (i := 46) (N := 16000) hG d_Mo_differ_157 rfl rfl (by decide) (by omega) (by (repeat (first | apply va_up_mt (h := by decide) | apply va_up_ms | apply pk_ut (h := by omega) | apply pk_uLt (h := by omega) | exact pk_us | exact pk_uLs | assumption)); all_goals rfl) ?_
                  refine ev_icmp_ne 207 d_Mo_differ_158 (by decide) (fun c3 => ?_) (fun c3 => ?_)
                  · exact out 1 (diff (fun w => c3 w.1))
                  · refine ev_aload_n d_Mo_differ_161 rfl rfl ?_
                    refine em_getA (i := 47) hG d_Mo_differ_162 fo_Mo_106 rfl ?_
                    refine ev_iload_n d_Mo_differ_165 rfl rfl ?_
                    refine ev_iload d_Mo_differ_166 rfl ?_
                    refine ev_iadd d_Mo_differ_168 ?_
                    rw [nI_add]
                    refine em_lald (i := 47) (N := 16000) hG d_Mo_differ_169 rfl rfl (by decide) (by omega) (by (repeat (first | apply va_up_mt (h := by decide) | apply va_up_ms | apply pk_ut (h := by omega) | apply pk_uLt (h := by omega) | exact pk_us | exact pk_uLs | assumption)); all_goals rfl) ?_
                    refine ev_aload_n d_Mo_differ_170 rfl rfl ?_
                    refine em_getA (i := 47) hG d_Mo_differ_171 fo_Mo_106 rfl ?_
                    refine ev_iload d_Mo_differ_174 rfl ?_
                    refine ev_iload d_Mo_differ_176 rfl ?_
                    refine ev_iadd d_Mo_differ_178 ?_
                    rw [nI_add]
                    refine em_lald (i := 47) (N := 16000) hG d_Mo_differ_179 rfl rfl (by decide) (by omega) (by (repeat (first | apply va_up_mt (h := by decide) | apply va_up_ms | apply pk_ut (h := by omega) | apply pk_uLt (h := by omega) | exact pk_us | exact pk_uLs | assumption)); all_goals rfl) ?_
                    refine ev_lcmp d_Mo_differ_180 ?_
                    refine ev_if_ne 207 d_Mo_differ_181 (by decide) (fun c4 => ?_) (fun c4 => ?_)
                    · exact out 1 (diff (fun w => c4 ((lg_cmp_eq _ _).mpr (i64_eq.mpr w.2.1))))
                    · have c4 := i64_eq.mp ((lg_cmp_eq _ _).mp c4)
                      refine ev_aload_n d_Mo_differ_184 rfl rfl ?_
                      refine em_getA (i := 48) hG d_Mo_differ_185 fo_Mo_109 rfl ?_
                      refine ev_iload_n d_Mo_differ_188 rfl rfl ?_
                      refine ev_iload d_Mo_differ_189 rfl ?_
                      refine ev_iadd d_Mo_differ_191 ?_
                      rw [nI_add]
                      refine em_lald (i := 48) (N := 16000) hG d_Mo_differ_192 rfl rfl (by decide) (by omega) (by (repeat (first | apply va_up_mt (h := by decide) | apply va_up_ms | apply pk_ut (h := by omega) | apply pk_uLt (h := by omega) | exact pk_us | exact pk_uLs | assumption)); all_goals rfl) ?_
                      refine ev_aload_n d_Mo_differ_193 rfl rfl ?_
                      refine em_getA (i := 48) hG d_Mo_differ_194 fo_Mo_109 rfl ?_
                      refine ev_iload d_Mo_differ_197 rfl ?_
                      refine ev_iload d_Mo_differ_199 rfl ?_
                      refine ev_iadd d_Mo_differ_201 ?_
                      rw [nI_add]
                      refine em_lald (i := 48) (N := 16000) hG d_Mo_differ_202 rfl rfl (by decide) (by omega) (by (repeat (first | apply va_up_mt (h := by decide) | apply va_up_ms | apply pk_ut (h := by omega) | apply pk_uLt (h := by omega) | exact pk_us | exact pk_uLs | assumption)); all_goals rfl) ?_
                      refine ev_lcmp d_Mo_differ_203 ?_
                      refine ev_if_eq 210 d_Mo_differ_204 (by decide) (fun c5 => ?_) (fun c5 => ?_)
                      · have c5 := i64_eq.mp ((lg_cmp_eq _ _).mp c5)
                        refine ev_iinc d_Mo_differ_210 rfl (by first | exact nI_1 _ | rfl) (by decide) ?_
                        refine ev_goto 94 d_Mo_differ_213 (by decide) ?_
                        refine ev_keep [0, 1, 2, 3, 4, 5, 6] ?_
                        refine ih (k + 1) (by omega) (fun e he => ?_)
                        by_cases w : e = k
                        · rw [w]; exact ⟨c1, c2, c3, c4, c5⟩
                        · exact hs e (by omega)
                      · exact out 1 (diff (fun w => c5 ((lg_cmp_eq _ _).mpr (i64_eq.mpr w.2.2))))
          refine ev_sipush (v := 2000) d_Mo_differ_34 (by decide) ?_
          refine ev_iload_n d_Mo_differ_37 rfl rfl ?_
          refine ev_iconst (v := 1) d_Mo_differ_38 (by decide) ?_
          refine ev_isub d_Mo_differ_39 ?_
          rw [nI_pred, show (2000 : Int32) = nI 2000 from rfl]
          refine ev_imul d_Mo_differ_40 ?_
          rw [pk_mul]
          refine ev_istore_n d_Mo_differ_41 rfl (by decide) ?_
          refine ev_sipush (v := 2000) d_Mo_differ_42 (by decide) ?_
          refine ev_iload_n d_Mo_differ_45 rfl rfl ?_
          refine ev_iconst (v := 1) d_Mo_differ_46 (by decide) ?_
          refine ev_isub d_Mo_differ_47 ?_
          rw [nI_pred, show (2000 : Int32) = nI 2000 from rfl]
          refine ev_imul d_Mo_differ_48 ?_
          rw [pk_mul]
          refine ev_istore d_Mo_differ_49 (by decide) ?_
          refine ev_aload_n d_Mo_differ_51 rfl rfl ?_
          refine em_getA (i := 45) hG d_Mo_differ_52 fo_Mo_100 rfl ?_
          refine ev_iload_n d_Mo_differ_55 rfl rfl ?_
          refine ev_iconst (v := 1) d_Mo_differ_56 (by decide) ?_
          refine ev_isub d_Mo_differ_57 ?_
          rw [nI_pred]
          refine em_iald (i := 45) (N := 8) hG d_Mo_differ_58 rfl rfl (by decide) (by omega) (by (repeat (first | apply va_up_mt (h := by decide) | apply va_up_ms | apply pk_ut (h := by omega) | apply pk_uLt (h := by omega) | exact pk_us | exact pk_uLs | assumption)); all_goals rfl) ?_
          refine ev_aload_n d_Mo_differ_59 rfl rfl ?_
          refine em_getA (i := 45) hG d_Mo_differ_60 fo_Mo_100 rfl ?_
          refine ev_iload_n d_Mo_differ_63 rfl rfl ?_
          refine ev_iconst (v := 1) d_Mo_differ_64 (by decide) ?_
          refine ev_isub d_Mo_differ_65 ?_
          rw [nI_pred]
          refine em_iald (i := 45) (N := 8) hG d_Mo_differ_66 rfl rfl (by decide) (by omega) (by (repeat (first | apply va_up_mt (h := by decide) | apply va_up_ms | apply pk_ut (h := by omega) | apply pk_uLt (h := by omega) | exact pk_us | exact pk_uLs | assumption)); all_goals rfl) ?_
          refine ev_icmp_ge 81 d_Mo_differ_67 (by decide) (fun c1 => ?_) (fun c1 => ?_)
          · have c1 : nb ≤ na := (nI_leI (by omega) (by omega)).mp c1
            refine ev_aload_n d_Mo_differ_81 rfl rfl ?_
            refine em_getA (i := 45) hG d_Mo_differ_82 fo_Mo_100 rfl ?_
            refine ev_iload_n d_Mo_differ_85 rfl rfl ?_
            refine ev_iconst (v := 1) d_Mo_differ_86 (by decide) ?_
            refine ev_isub d_Mo_differ_87 ?_
            rw [nI_pred]
            refine em_iald (i := 45) (N := 8) hG d_Mo_differ_88 rfl rfl (by decide) (by omega) (by (repeat (first | apply va_up_mt (h := by decide) | apply va_up_ms | apply pk_ut (h := by omega) | apply pk_uLt (h := by omega) | exact pk_us | exact pk_uLs | assumption)); all_goals rfl) ?_
            refine ev_istore d_Mo_differ_89 (by decide) ?_
            refine ev_iconst (v := 0) d_Mo_differ_91 (by decide) ?_
            refine ev_istore d_Mo_differ_92 (by decide) ?_
            have := loop (max na nb) 0 (by omega) (fun e he => by omega)
            rw [show max na nb = na by omega] at this
            exact this
          · have c1 : ¬ nb ≤ na := fun w => c1 (nI_le w (by omega))
            refine ev_aload_n d_Mo_differ_70 rfl rfl ?_
            refine em_getA (i := 45) hG d_Mo_differ_71 fo_Mo_100 rfl ?_
            refine ev_iload_n d_Mo_differ_74 rfl rfl ?_
            refine ev_iconst (v := 1) d_Mo_differ_75 (by decide) ?_
            refine ev_isub d_Mo_differ_76 ?_
            rw [nI_pred]
            refine em_iald (i := 45) (N := 8) hG d_Mo_differ_77 rfl rfl (by decide) (by omega) (by (repeat (first | apply va_up_mt (h := by decide) | apply va_up_ms | apply pk_ut (h := by omega) | apply pk_uLt (h := by omega) | exact pk_us | exact pk_uLs | assumption)); all_goals rfl) ?_
            refine ev_goto 89 d_Mo_differ_78 (by decide) ?_
            refine ev_istore d_Mo_differ_89 (by decide) ?_
            refine ev_iconst (v := 0) d_Mo_differ_91 (by decide) ?_
            refine ev_istore d_Mo_differ_92 (by decide) ?_
            have := loop (max na nb) 0 (by omega) (fun e he => by omega)
            rw [show max na nb = nb by omega] at this
            exact this
end M3
