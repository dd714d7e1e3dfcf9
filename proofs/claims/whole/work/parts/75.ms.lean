/-! THE MODEL READS: what it keeps of what was read; addTest -/
/-- there is a word k -/
def wx (sg : Nat → Nat) (s e k : Nat) : Prop := (w_w sg s e k).1 < (w_w sg s e k).2
theorem wx_e {sg : Nat → Nat} {s e k : Nat} (hse : s ≤ e) : wx sg s e k ↔ (w_w sg s e k).1 < e := by
  obtain ⟨b1, b2, b3, b4⟩ := w_w_b (sg := sg) hse k
  exact ⟨fun h => by unfold wx at h; omega, b4⟩
theorem wc_lt {sg : Nat → Nat} {s e j : Nat} (hse : s ≤ e) (hj : j < 13) : j < w_c sg s e ↔ wx sg s e j := by
  obtain ⟨a1, a2, a3⟩ := w_c_is (sg := sg) (s := s) (e := e)
  rw [wx_e hse]
  constructor
  · exact a2 j
  · intro h
    apply Nat.lt_of_not_le
    intro q
    rcases w_has_no (sg := sg) hse (k := j) (by omega) with z | z
    · omega
    · omega
theorem wx_2 {sg : Nat → Nat} {s e k : Nat} (hse : s ≤ e) (h0 : wx sg s e k) (h : wx sg s e (k + 1)) : (w_w sg s e k).2 + 2 ≤ (w_w sg s e (k + 1)).2 := by
  obtain ⟨b1, b2, b3, b4⟩ := w_w_b (sg := sg) hse k
  have c1 : (w_w sg s e k).2 ≤ (w_w sg s e (k + 1)).1 := (w_at_b (sg := sg) b3).1
  unfold wx at h h0
  by_cases q : (w_w sg s e k).2 = (w_w sg s e (k + 1)).1
  · exfalso
    have d3 := (w_w_b (sg := sg) hse (k + 1)).2.2.1
    have e1 : (w_w sg s e k).2 = w_en sg (e - (w_w sg s e k).1) (w_w sg s e k).1 := by cases k <;> rfl
    have e2 : (w_w sg s e (k + 1)).1 = w_nx sg (e - (w_w sg s e k).2) (w_w sg s e k).2 := rfl
    have e3 := (w_nx_b (sg := sg) (e := e) (m := e - (w_w sg s e k).2) (p := (w_w sg s e k).2) (by omega)).2.2
    rw [← e2, ← q] at e3
    have e4 := e3 (by omega)
    have : ∀ (m p : Nat), p + m = e → w_en sg (e - p) p < e → sg (w_en sg (e - p) p) = 32 := by
      intro m
      induction m with
      | zero => intro p hp; rw [w_en_0 (by omega)]; omega
      | succ m ih =>
        intro p hp
        by_cases z : sg p = 32
        · rw [w_en_s (by omega) z]; exact fun _ => z
        · rw [w_en_n (by omega) z]; exact ih (p + 1) (by omega)
    have e5 := this (e - (w_w sg s e k).1) (w_w sg s e k).1 (by omega)
    rw [← e1] at e5
    exact e4 (e5 (by omega))
  · omega
theorem nm_wx {sg : Nat → Nat} {vk : Nat → Nat} {vn b f : Nat} (h : 0 < zvo vk (ky sg b f) vn 0) (hk : ∀ i, i < vn → 0 < vk i) : b < f := by
  obtain ⟨z1, z2⟩ := zvo_le (vk := vk) (key := ky sg b f) vn 0
  obtain ⟨z3, z4⟩ := z2 h
  have := hk (zvo vk (ky sg b f) vn 0 - 1) (by omega)
  rw [z4] at this
  exact ((ky_nm (sg := sg) (b := b) (f := f)).mpr (by omega)).1
theorem nu_wx {sg : Nat → Nat} {b f : Nat} (h : nu_k sg b f ≠ -1000000) : b < f := by
  apply Nat.lt_of_not_le
  intro q
  refine h (nu_bad rfl (Or.inl ?_))
  unfold w_st
  split <;> omega
theorem op_wx {sg : Nat → Nat} {b f : Nat} (h : op_k sg b f ≠ 0) : b < f := by
  apply Nat.lt_of_not_le
  intro q
  exact h (by rw [op_k, if_neg (by omega)])
/-- the model's kind -/
def mkd (k : Int32) : Int32 := if k = 1 then 0 else if k = 2 then 1 else if k = 3 then 3 else if k = 4 then 2 else if k = 5 then 4 else if k = 6 then 5 else if k = 7 then 6 else 7
/-- what the model keeps of step i -/
def ms_ok (M : Nat → Nat → Int32) (W : Nat → Nat → Int64) (c i : Nat) (g : Nat → Int32) (nl : Nat) (nf : Nat → Int32) : Prop :=
  M 24 i = mkd (g 0) ∧ M 25 i = g 1 ∧ M 26 i = g 2 ∧ (g 0 = 1 ∨ g 0 = 2 ∨ g 0 = 3 ∨ g 0 = 4 ∨ g 0 = 5 → W 27 i = (g 4).toInt64) ∧ (g 0 = 2 ∨ g 0 = 3 ∨ g 0 = 5 → W 28 i = (g 5).toInt64) ∧ (g 0 = 3 ∨ g 0 = 4 → M 29 i = g 3) ∧ (g 0 = 6 → M 30 i = g 4) ∧ (g 0 = 7 → M 30 i = nI nl ∧ ∃ fc, M 32 i = nI fc ∧ fc + nl ≤ c ∧ ∀ j, j < nl → W 35 (fc + j) = (nf j).toInt64)
/-- only the places sn of the steps' arrays have changed, and field 18 -/
def sn_fr (sn : Nat) (M M' : Nat → Nat → Int32) : Prop := ∀ k, k ≠ 18 → M' k = M k ∨ (24 ≤ k ∧ k ≤ 33 ∧ ∀ j, j ≠ sn → M' k j = M k j)
theorem sn_fr.rf {sn : Nat} {M : Nat → Nat → Int32} : sn_fr sn M M := fun _ _ => Or.inl rfl
theorem sn_fr.up {sn k : Nat} {M M' : Nat → Nat → Int32} {y : Int32} (h : sn_fr sn M M') (hk : 24 ≤ k ∧ k ≤ 33) : sn_fr sn M (va_up M' k (upd (M' k) sn y)) := by
  intro i hi
  by_cases q : i = k
  · subst q
    refine Or.inr ⟨hk.1, hk.2, fun j hj => ?_⟩
    rw [va_up_s, pk_un hj]
    rcases h i hi with z | z
    · rw [z]
    · exact z.2.2 j hj
  · rw [va_up_n q]; exact h i hi
theorem sn_fr.u18 {sn : Nat} {M M' : Nat → Nat → Int32} {y : Nat → Int32} (h : sn_fr sn M M') : sn_fr sn M (va_up M' 18 y) := by
  intro i hi
  rw [va_up_n hi]
  exact h i hi
theorem sn_fr.tr {sn : Nat} {M M' M2 : Nat → Nat → Int32} (h : sn_fr sn M M') (h2 : sn_fr sn M' M2) : sn_fr sn M M2 := by
  intro k hk
  rcases h k hk with a | a
  · rcases h2 k hk with b | b
    · exact Or.inl (b.trans a)
    · exact Or.inr ⟨b.1, b.2.1, fun j hj => by rw [b.2.2 j hj, a]⟩
  · rcases h2 k hk with b | b
    · exact Or.inr ⟨a.1, a.2.1, fun j hj => by rw [b]; exact a.2.2 j hj⟩
    · exact Or.inr ⟨a.1, a.2.1, fun j hj => (b.2.2 j hj).trans (a.2.2 j hj)⟩
theorem sn_fr.at {sn k j : Nat} {M M' : Nat → Nat → Int32} (h : sn_fr sn M M') (hk : k ≠ 18) (hj : j ≠ sn) : M' k j = M k j := by
  rcases h k hk with a | a
  · rw [a]
  · exact a.2.2 j hj
theorem sn_fr.off {sn k : Nat} {M M' : Nat → Nat → Int32} (h : sn_fr sn M M') (hk : k ≠ 18) (hj : k < 24 ∨ 33 < k) : M' k = M k := (h k hk).resolve_right (fun z => by omega)
def sw_fr (sn c : Nat) (W W' : Nat → Nat → Int64) : Prop := (∀ j, j ≠ sn → W' 27 j = W 27 j) ∧ (∀ j, j ≠ sn → W' 28 j = W 28 j) ∧ ∀ j, j < c → W' 35 j = W 35 j
theorem ms_fr {sn c c' i nl : Nat} {M M' : Nat → Nat → Int32} {W W' : Nat → Nat → Int64} {g nf : Nat → Int32} (h : ms_ok M W c i g nl nf) (hM : sn_fr sn M M') (hW : sw_fr sn c W W') (hi : i ≠ sn) (hc : c ≤ c') : ms_ok M' W' c' i g nl nf := by
  obtain ⟨h1, h2, h3, h4, h5, h6, h7, h8⟩ := h
  refine ⟨(hM.at (by decide) hi).trans h1, (hM.at (by decide) hi).trans h2, (hM.at (by decide) hi).trans h3, fun q => (hW.1 i hi).trans (h4 q), fun q => (hW.2.1 i hi).trans (h5 q), fun q => (hM.at (by decide) hi).trans (h6 q), fun q => (hM.at (by decide) hi).trans (h7 q), fun q => ?_⟩
  obtain ⟨q1, fc, q2, q3, q4⟩ := h8 q
  exact ⟨(hM.at (by decide) hi).trans q1, fc, (hM.at (by decide) hi).trans q2, by omega, fun j hj => (hW.2.2 _ (by omega)).trans (q4 j hj)⟩
/-- what the model keeps while z has been read, c numbers of cases among it -/
def mp_ok (sg : Nat → Nat) (n c : Nat) (z : pz) (I : Nat → Int32) (M : Nat → Nat → Int32) (W : Nat → Nat → Int64) : Prop :=
  I 11 = nI (zVn z) ∧ I 14 = nI (zTn z) ∧ I 23 = nI (zSn z) ∧ I 36 = nI (zDp z) ∧ I 34 = nI c ∧ nm_sl sg n (M 12) (M 13) (zVn z) (zVk z) ∧ nm_sl sg n (M 15) (M 16) (zTn z) (zTk z) ∧ (∀ i, i < zTn z → M 17 (i + 1) = nI (zFi z i) ∧ M 18 (i + 1) = bhI ((zAl z i).elim 0 (· + 1)) ∧ M 19 (i + 1) = 0) ∧ (∀ j, j < zDp z → M 37 j = nI (zOp z j)) ∧ (∀ i, i < zSn z → bk_g (zSd z i) → (∃ j, j < zDp z ∧ zOp z j = i) ∨ M 31 i = nI (zBh z i)) ∧ (∀ i, i < zSn z → M 33 i = 0) ∧ ∀ i, i < zSn z → ms_ok M W c i (zSd z i) (zNl z i) (zNf z i)
/-- the model's other fields stay while it reads -/
def mp_fr (I I' : Nat → Int32) (J J' : Nat → Int64) (M M' : Nat → Nat → Int32) : Prop := (∀ i, i < 5 ∨ i = 6 ∨ i = 10 ∨ (36 < i) → I' i = I i) ∧ (∀ i, i ≠ 9 → J' i = J i) ∧ M' 2 = M 2 ∧ M' 4 = M 4 ∧ M' 42 = M 42
theorem mp_fr.rf {I : Nat → Int32} {J : Nat → Int64} {M : Nat → Nat → Int32} : mp_fr I I J J M M := ⟨fun _ _ => rfl, fun _ _ => rfl, rfl, rfl, rfl⟩
theorem mp_fr.tr {I I1 I2 : Nat → Int32} {J J1 J2 : Nat → Int64} {M M1 M2 : Nat → Nat → Int32} (h : mp_fr I I1 J J1 M M1) (g : mp_fr I1 I2 J1 J2 M1 M2) : mp_fr I I2 J J2 M M2 := ⟨fun i hi => (g.1 i hi).trans (h.1 i hi), fun i hi => (g.2.1 i hi).trans (h.2.1 i hi), g.2.2.1.trans h.2.2.1, g.2.2.2.1.trans h.2.2.2.1, g.2.2.2.2.trans h.2.2.2.2⟩
theorem mp_fr.w {I : Nat → Int32} {J : Nat → Int64} {M : Nat → Nat → Int32} {b f : Nat} : mp_fr I (mo_w I b f) J J M M := ⟨fun i hi => mo_w_n (by omega) (by omega) (by omega), fun _ _ => rfl, rfl, rfl, rfl⟩
theorem mp_fr.i {I I' : Nat → Int32} {J J' : Nat → Int64} {M M' : Nat → Nat → Int32} {i : Nat} {x : Int32} (h : mp_fr I I' J J' M M') (hi : 4 < i ∧ i ≠ 6 ∧ i ≠ 10 ∧ i ≤ 36) : mp_fr I (va_up I' i x) J J' M M' := ⟨fun k hk => (va_up_n (by omega)).trans (h.1 k hk), h.2⟩
theorem mp_fr.m {I I' : Nat → Int32} {J J' : Nat → Int64} {M M' : Nat → Nat → Int32} {i : Nat} {x : Nat → Int32} (h : mp_fr I I' J J' M M') (hi : i ≠ 2 ∧ i ≠ 4 ∧ i ≠ 42) : mp_fr I I' J J' M (va_up M' i x) := ⟨h.1, h.2.1, (va_up_n hi.1.symm).trans h.2.2.1, (va_up_n hi.2.1.symm).trans h.2.2.2.1, (va_up_n hi.2.2.symm).trans h.2.2.2.2⟩
theorem mp_fr.j {I I' : Nat → Int32} {J J' : Nat → Int64} {M M' : Nat → Nat → Int32} {x : Int64} (h : mp_fr I I' J J' M M') : mp_fr I I' J (va_up J' 9 x) M M' := ⟨h.1, fun k hk => (va_up_n hk).trans (h.2.1 k hk), h.2.2⟩
theorem mp_fr.wm {I I' : Nat → Int32} {J J' : Nat → Int64} {M M' : Nat → Nat → Int32} {b f : Nat} (h : mp_fr I I' J J' M M') : mp_fr I (mo_w I' b f) J J' M M' := h.tr mp_fr.w
theorem nm_sl_up {sg : Nat → Nat} {n cnt p q : Nat} {B F : Nat → Int32} {key : Nat → Nat} (h : nm_sl sg n B F cnt key) (hm : is_nm sg p q) (hq : q ≤ n) : nm_sl sg n (upd B (cnt + 1) (nI p)) (upd F (cnt + 1) (nI q)) (cnt + 1) (va_up key cnt (ky sg p q)) := by
  intro i hi
  by_cases z : i = cnt
  · rw [z]
    exact ⟨p, q, pk_us, pk_us, by have := hm.1; omega, hq, hm, by rw [va_up_s]⟩
  · obtain ⟨a, b, h1, h2, h3, h4, h5, h6⟩ := h i (by omega)
    exact ⟨a, b, by rw [pk_un (by omega)]; exact h1, by rw [pk_un (by omega)]; exact h2, h3, h4, h5, by rw [va_up_n z]; exact h6⟩
section MS
variable {l : Launch} {X : pm_X} {G G0 : pm_G} {a : Nat} {A : Nat → Nat} {I : Nat → Int32} {J : Nat → Int64} {M : Nat → Nat → Int32} {W : Nat → Nat → Int64} {sg : Nat → Nat} {s e n c : Nat} {z : pz}
set_option maxHeartbeats 1000000 in
theorem c_Mo_addTest (hG : mo_at G0 a A I J M W G) (hk : mk_ok sg M n) (hz : pz_b z) (h : mp_ok sg n c z I M W) (h5 : I 5 = nI (w_w sg s e 0).2) (h6 : I 6 = nI e) (hse : s ≤ e) (hen : e ≤ n) (hn : n ≤ 4000) : cn_M l X m_Mo_addTest 3 0 0 [.ref a] G (fun r G' => r = some (.int (cI (w_c sg s e = 2 ∧ w_key sg s e 1 ≠ 0 ∧ ¬ zTaken z (w_key sg s e 1) ∧ zDp z = 0 ∧ zTn z < 12))) ∧ ∃ I' M', mo_at G0 a A I' J M' W G' ∧ mp_fr I I' J J M M' ∧ ((w_c sg s e = 2 ∧ w_key sg s e 1 ≠ 0 ∧ ¬ zTaken z (w_key sg s e 1) ∧ zDp z = 0 ∧ zTn z < 12) → mp_ok sg n c (pz_test (w_key sg s e 1) z) I' M' W)) := by
  obtain ⟨p1, p2, p3, p4, p5, p6, p7, p8, p9, p10, p11, p12⟩ := id h
  obtain ⟨z1, z2, z3, z4, z5, z6, z7, z8, z9⟩ := id hz
  have sn0 := hz.sn
  have hke := mk_le hk hen
  have b0 := (w_w_b (sg := sg) hse 0).2.2.1
  obtain ⟨b1, b2, b3, b4⟩ := w_w_b (sg := sg) hse 1
  have c1 := wc_lt (sg := sg) hse (j := 1) (by omega)
  have c2 := wc_lt (sg := sg) hse (j := 2) (by omega)
  refine cn_in rfl (Nat.le_of_ble_eq_true rfl) ?_
  refine ev_aload_n d_Mo_addTest_0 rfl rfl ?_
  refine ev_callV0 d_Mo_addTest_1 ck_Mo_newName ml_Mo_181 im_Mo_newName se_Mo_newName rfl hG.1 (c_Mo_newName (b := (w_w sg s e 1).1) (f := (w_w sg s e 1).2) hG hk h5 h6 b0 hen hn rfl rfl p1 z1 p6 p2 z3 p7) (by omega) (Nat.le_of_ble_eq_true rfl) (by omega) (by omega) ?_
  rintro _ G ⟨rfl, hG⟩
  have bad : ¬ (w_c sg s e = 2 ∧ w_key sg s e 1 ≠ 0 ∧ ¬ zTaken z (w_key sg s e 1) ∧ zDp z = 0 ∧ zTn z < 12) → ev_W l X m_Mo_addTest 3 0 0 (fun r G' => r = some (.int (cI (w_c sg s e = 2 ∧ w_key sg s e 1 ≠ 0 ∧ ¬ zTaken z (w_key sg s e 1) ∧ zDp z = 0 ∧ zTn z < 12))) ∧ ∃ I' M', mo_at G0 a A I' J M' W G' ∧ mp_fr I I' J J M M' ∧ ((w_c sg s e = 2 ∧ w_key sg s e 1 ≠ 0 ∧ ¬ zTaken z (w_key sg s e 1) ∧ zDp z = 0 ∧ zTn z < 12) → mp_ok sg n c (pz_test (w_key sg s e 1) z) I' M' W)) 0 0 23 [(0, .ref a)] [] G := by
    intro q
    refine ev_iconst (v := 0) d_Mo_addTest_23 (by decide) ?_
    exact ev_zret d_Mo_addTest_24 rfl rfl (⟨by rw [cI_f q], _, _, hG, mp_fr.w, fun y => absurd y q⟩)
  refine ev_if_eq 23 d_Mo_addTest_4 (by decide) (fun h0 => ?_) (fun h0 => ?_)
  · exact bad (fun q => cI_0 h0 ⟨ky_nm.mpr q.2.1, q.2.2.1⟩)
  · obtain ⟨g1, g2⟩ := cI_1 h0
    refine ev_aload_n d_Mo_addTest_7 rfl rfl ?_
    refine em_getI (i := 36) hG d_Mo_addTest_8 fo_Mo_190 rfl (by (repeat (first | apply va_up_t (h := by decide) | apply mo_w_t (h5 := by decide) (h7 := by decide) (h8 := by decide) | assumption | exact va_up_s | exact mo_w_5 | exact mo_w_7 | exact mo_w_8)); all_goals rfl) ?_
    refine ev_if_gt 23 d_Mo_addTest_11 (by decide) (fun h1 => ?_) (fun h1 => ?_)
    · exact bad (fun q => absurd h1 (by rw [q.2.2.2.1]; decide))
    · have d0 : zDp z = 0 := by
        rcases Nat.eq_zero_or_pos (zDp z) with q | q
        · exact q
        · exact absurd (nI_lt (a := 0) q (by omega)) h1
      refine ev_aload_n d_Mo_addTest_14 rfl rfl ?_
      refine em_getI (i := 14) hG d_Mo_addTest_15 fo_Mo_171 rfl (by (repeat (first | apply va_up_t (h := by decide) | apply mo_w_t (h5 := by decide) (h7 := by decide) (h8 := by decide) | assumption | exact va_up_s | exact mo_w_5 | exact mo_w_7 | exact mo_w_8)); all_goals rfl) ?_
      refine ev_bipush (v := 12) d_Mo_addTest_18 (by decide) ?_
      refine ev_icmp_ne 25 d_Mo_addTest_20 (by decide) (fun h2 => ?_) (fun h2 => ?_)
      · have t12 : zTn z < 12 := by
          rcases Nat.lt_or_ge (zTn z) 12 with q | q
          · exact q
          · exact absurd (by rw [show zTn z = 12 by omega]; rfl) h2
        refine ev_aload_n d_Mo_addTest_25 rfl rfl ?_
        refine ev_dup d_Mo_addTest_26 rfl ?_
        refine em_getI (i := 14) hG d_Mo_addTest_27 fo_Mo_171 rfl (by (repeat (first | apply va_up_t (h := by decide) | apply mo_w_t (h5 := by decide) (h7 := by decide) (h8 := by decide) | assumption | exact va_up_s | exact mo_w_5 | exact mo_w_7 | exact mo_w_8)); all_goals rfl) ?_
        refine ev_iconst (v := 1) d_Mo_addTest_30 (by decide) ?_
        refine ev_iadd d_Mo_addTest_31 ?_
        rw [nI_1]
        refine em_putI (i := 14) hG d_Mo_addTest_32 fo_Mo_171 rfl rfl (by decide) mv_14 (fun G hG => ?_)
        refine ev_aload_n d_Mo_addTest_35 rfl rfl ?_
        refine em_getA (i := 15) hG d_Mo_addTest_36 fo_Mo_22 rfl ?_
        refine ev_aload_n d_Mo_addTest_39 rfl rfl ?_
        refine em_getI (i := 14) hG d_Mo_addTest_40 fo_Mo_171 rfl (by (repeat (first | apply va_up_t (h := by decide) | apply mo_w_t (h5 := by decide) (h7 := by decide) (h8 := by decide) | assumption | exact va_up_s | exact mo_w_5 | exact mo_w_7 | exact mo_w_8)); all_goals rfl) ?_
        refine ev_aload_n d_Mo_addTest_43 rfl rfl ?_
        refine em_getI (i := 7) hG d_Mo_addTest_44 fo_Mo_140 rfl (by (repeat (first | apply va_up_t (h := by decide) | apply mo_w_t (h5 := by decide) (h7 := by decide) (h8 := by decide) | assumption | exact va_up_s | exact mo_w_5 | exact mo_w_7 | exact mo_w_8)); all_goals rfl) ?_
        refine em_iast (i := 15) (N := 13) hG d_Mo_addTest_47 rfl rfl (by decide) (by omega) (fun G hG => ?_)
        refine ev_aload_n d_Mo_addTest_48 rfl rfl ?_
        refine em_getA (i := 16) hG d_Mo_addTest_49 fo_Mo_25 rfl ?_
        refine ev_aload_n d_Mo_addTest_52 rfl rfl ?_
        refine em_getI (i := 14) hG d_Mo_addTest_53 fo_Mo_171 rfl (by (repeat (first | apply va_up_t (h := by decide) | apply mo_w_t (h5 := by decide) (h7 := by decide) (h8 := by decide) | assumption | exact va_up_s | exact mo_w_5 | exact mo_w_7 | exact mo_w_8)); all_goals rfl) ?_
        refine ev_aload_n d_Mo_addTest_56 rfl rfl ?_
        refine em_getI (i := 8) hG d_Mo_addTest_57 fo_Mo_143 rfl (by (repeat (first | apply va_up_t (h := by decide) | apply mo_w_t (h5 := by decide) (h7 := by decide) (h8 := by decide) | assumption | exact va_up_s | exact mo_w_5 | exact mo_w_7 | exact mo_w_8)); all_goals rfl) ?_
        refine em_iast (i := 16) (N := 13) hG d_Mo_addTest_60 rfl rfl (by decide) (by omega) (fun G hG => ?_)
        refine ev_aload_n d_Mo_addTest_61 rfl rfl ?_
        refine em_getA (i := 17) hG d_Mo_addTest_62 fo_Mo_28 rfl ?_
        refine ev_aload_n d_Mo_addTest_65 rfl rfl ?_
        refine em_getI (i := 14) hG d_Mo_addTest_66 fo_Mo_171 rfl (by (repeat (first | apply va_up_t (h := by decide) | apply mo_w_t (h5 := by decide) (h7 := by decide) (h8 := by decide) | assumption | exact va_up_s | exact mo_w_5 | exact mo_w_7 | exact mo_w_8)); all_goals rfl) ?_
        refine ev_aload_n d_Mo_addTest_69 rfl rfl ?_
        refine em_getI (i := 23) hG d_Mo_addTest_70 fo_Mo_174 rfl (by (repeat (first | apply va_up_t (h := by decide) | apply mo_w_t (h5 := by decide) (h7 := by decide) (h8 := by decide) | assumption | exact va_up_s | exact mo_w_5 | exact mo_w_7 | exact mo_w_8)); all_goals rfl) ?_
        refine em_iast (i := 17) (N := 14) hG d_Mo_addTest_73 rfl rfl (by decide) (by omega) (fun G hG => ?_)
        refine ev_aload_n d_Mo_addTest_74 rfl rfl ?_
        refine em_getA (i := 18) hG d_Mo_addTest_75 fo_Mo_31 rfl ?_
        refine ev_aload_n d_Mo_addTest_78 rfl rfl ?_
        refine em_getI (i := 14) hG d_Mo_addTest_79 fo_Mo_171 rfl (by (repeat (first | apply va_up_t (h := by decide) | apply mo_w_t (h5 := by decide) (h7 := by decide) (h8 := by decide) | assumption | exact va_up_s | exact mo_w_5 | exact mo_w_7 | exact mo_w_8)); all_goals rfl) ?_
        refine ev_iconst (v := -1) d_Mo_addTest_82 (by decide) ?_
        refine em_iast (i := 18) (N := 13) hG d_Mo_addTest_83 rfl rfl (by decide) (by omega) (fun G hG => ?_)
        refine ev_aload_n d_Mo_addTest_84 rfl rfl ?_
        refine em_getA (i := 19) hG d_Mo_addTest_85 fo_Mo_34 rfl ?_
        refine ev_aload_n d_Mo_addTest_88 rfl rfl ?_
        refine em_getI (i := 14) hG d_Mo_addTest_89 fo_Mo_171 rfl (by (repeat (first | apply va_up_t (h := by decide) | apply mo_w_t (h5 := by decide) (h7 := by decide) (h8 := by decide) | assumption | exact va_up_s | exact mo_w_5 | exact mo_w_7 | exact mo_w_8)); all_goals rfl) ?_
        refine ev_iconst (v := 0) d_Mo_addTest_92 (by decide) ?_
        refine em_iast (i := 19) (N := 13) hG d_Mo_addTest_93 rfl rfl (by decide) (by omega) (fun G hG => ?_)
        refine ev_aload_n d_Mo_addTest_94 rfl rfl ?_
        refine ev_callV0 d_Mo_addTest_95 ck_Mo_through ml_Mo_184 im_Mo_through se_Mo_through rfl hG.1 (c_Mo_through (e := e) (p := (w_w sg s e 1).2) hG (by (repeat (first | apply mk_up (h := by decide) | assumption))) (by (repeat (first | apply va_up_t (h := by decide) | apply mo_w_t (h5 := by decide) (h7 := by decide) (h8 := by decide) | assumption | exact va_up_s | exact mo_w_5 | exact mo_w_7 | exact mo_w_8)); all_goals rfl) (by (repeat (first | apply va_up_t (h := by decide) | apply mo_w_t (h5 := by decide) (h7 := by decide) (h8 := by decide) | assumption | exact va_up_s | exact mo_w_5 | exact mo_w_7 | exact mo_w_8)); all_goals rfl) b3 (by omega)) (by omega) (Nat.le_of_ble_eq_true rfl) (by omega) (by omega) ?_
        rintro _ G ⟨rfl, hG⟩
        have ec : cI (¬ (w_at sg e (w_w sg s e 1).2).1 < (w_at sg e (w_w sg s e 1).2).2) = cI (w_c sg s e = 2 ∧ w_key sg s e 1 ≠ 0 ∧ ¬ zTaken z (w_key sg s e 1) ∧ zDp z = 0 ∧ zTn z < 12) := by
          refine congrArg cI (propext ⟨fun q => ⟨?_, ky_nm.mp g1, g2, d0, t12⟩, fun q y => ?_⟩)
          · have q1 := c1.mpr g1.1
            have q2 : ¬ 2 < w_c sg s e := fun y => q (c2.mp y)
            omega
          · have := c2.mpr y
            omega
        refine ev_zret d_Mo_addTest_98 rfl cI_n ⟨by rw [ec], _, _, hG, ?_, fun _ => ?_⟩
        · exact ((((((mp_fr.w.i (by decide)).m (by decide)).m (by decide)).m (by decide)).m (by decide)).m (by decide)).wm
        · have nI' : ∀ i, i ≠ 5 → i ≠ 7 → i ≠ 8 → i ≠ 14 → mo_w (va_up (mo_w I (w_w sg s e 1).1 (w_w sg s e 1).2) 14 (nI (zTn z + 1))) (w_at sg e (w_w sg s e 1).2).1 (w_at sg e (w_w sg s e 1).2).2 i = I i := fun i i5 i7 i8 i14 => by rw [mo_w_n i5 i7 i8, va_up_n i14, mo_w_n i5 i7 i8]
          refine ⟨(nI' 11 (by decide) (by decide) (by decide) (by decide)).trans p1, ?_, (nI' 23 (by decide) (by decide) (by decide) (by decide)).trans p3, (nI' 36 (by decide) (by decide) (by decide) (by decide)).trans p4, (nI' 34 (by decide) (by decide) (by decide) (by decide)).trans p5, p6, nm_sl_up p7 g1 (by omega), fun i hi => ?_, p9, p10, p11, p12⟩
          · rw [mo_w_n (by decide) (by decide) (by decide), va_up_s]; rfl
          · have hi : i < zTn z + 1 := hi
            by_cases q : i = zTn z
            · subst q
              exact ⟨by rw [show zFi (pz_test (w_key sg s e 1) z) (zTn z) = zSn z from va_up_s]; exact pk_us, by rw [show zAl (pz_test (w_key sg s e 1) z) (zTn z) = none from va_up_s]; exact pk_us, pk_us⟩
            · obtain ⟨y1, y2, y3⟩ := p8 i (by omega)
              rw [show zFi (pz_test (w_key sg s e 1) z) i = zFi z i from va_up_n q, show zAl (pz_test (w_key sg s e 1) z) i = zAl z i from va_up_n q]
              exact ⟨(pk_un (by omega)).trans y1, (pk_un (by omega)).trans y2, (pk_un (by omega)).trans y3⟩
      · have h2 : zTn z = 12 := (nI_eq (by omega) (b := 12) (by omega)).mp h2
        exact bad (fun q => by have := q.2.2.2.2; omega)
end MS
