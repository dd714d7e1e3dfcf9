/-! THE MODEL ANSWERS: answer, plant, differ -/
section M2
variable {l : Launch} {X : pm_X} {G G0 : pm_G} {a : Nat} {A : Nat → Nat} {I : Nat → Int32} {J : Nat → Int64} {M : Nat → Nat → Int32} {W : Nat → Nat → Int64} {vn N n rc : Nat} {x : Int32} {v t : Int64} {kf : Nat → Nat} {vf : Nat → Int32} {av at' : Nat → Nat} {ax : Nat → Int32}
set_option maxHeartbeats 1000000 in
theorem c_Mo_answer (hG : mo_at G0 a A I J M W G) (h11 : I 11 = nI vn) (hvn : vn ≤ 20) (h38 : I 38 = nI N) (hN : N ≤ 200) : cn_M l X m_Mo_answer 0 0 0 [.ref a, .int x, .long v, .long t] G (fun r G' => ((x < 1 ∨ nI vn < x) ∧ r = some (.int (-1)) ∧ mo_at G0 a A (va_up I 0 0) J M W G') ∨ (¬ (x < 1 ∨ nI vn < x) ∧ (v < -999999 ∨ 999999 < v ∨ t < 0 ∨ 100000 < t) ∧ r = some (.int (-2)) ∧ mo_at G0 a A (va_up I 0 0) J M W G') ∨ (¬ (x < 1 ∨ nI vn < x) ∧ ¬ (v < -999999 ∨ 999999 < v ∨ t < 0 ∨ 100000 < t) ∧ 200 ≤ N ∧ r = some (.int (-4)) ∧ mo_at G0 a A (va_up I 0 0) J M W G') ∨
      (¬ (x < 1 ∨ nI vn < x) ∧ ¬ (v < -999999 ∨ 999999 < v ∨ t < 0 ∨ 100000 < t) ∧ N < 200 ∧ r = some (.int (nI (N + 1))) ∧ mo_at G0 a A (va_up (va_up I 0 0) 38 (nI (N + 1))) J (va_up M 39 (upd (M 39) N x)) (va_up (va_up W 40 (vp_updL (W 40) N v)) 41 (vp_updL (W 41) N t)) G')) := by
  refine cn_in rfl (Nat.le_of_ble_eq_true rfl) ?_
  refine ev_aload_n d_Mo_answer_0 rfl rfl ?_
  refine ev_iconst (v := 0) d_Mo_answer_1 (by decide) ?_
  refine em_putI (i := 0) hG d_Mo_answer_2 fo_Mo_127 rfl rfl (by decide) mv_0 (fun G hG => ?_)
  refine ev_iload_n d_Mo_answer_5 rfl rfl ?_
  refine ev_iconst (v := 1) d_Mo_answer_6 (by decide) ?_
  refine ev_icmp_lt 18 d_Mo_answer_7 (by decide) (fun h1 => ?_) (fun h1 => ?_)
  · refine ev_iconst (v := -1) d_Mo_answer_18 (by decide) ?_
    exact ev_iret d_Mo_answer_19 rfl (Or.inl ⟨Or.inl h1, rfl, hG⟩)
  · refine ev_iload_n d_Mo_answer_10 rfl rfl ?_
    refine ev_aload_n d_Mo_answer_11 rfl rfl ?_
    refine em_getI (i := 11) hG d_Mo_answer_12 fo_Mo_157 rfl (by (repeat (first | apply va_up_t (h := by decide) | apply mo_w_t (h5 := by decide) (h7 := by decide) (h8 := by decide) | exact va_up_s | exact mo_w_5 | exact mo_w_7 | exact mo_w_8 | assumption)); all_goals rfl) ?_
    by_cases h2 : nI vn < x
    · refine ev_icmp_le 20 d_Mo_answer_15 (by decide) (fun y => absurd h2 (Int32.not_lt.mpr y)) (fun _ => ?_)
      refine ev_iconst (v := -1) d_Mo_answer_18 (by decide) ?_
      exact ev_iret d_Mo_answer_19 rfl (Or.inl ⟨Or.inr h2, rfl, hG⟩)
    · refine ev_icmp_le 20 d_Mo_answer_15 (by decide) (fun _ => ?_) (fun y => absurd (Int32.not_le.mp y) h2)
      have hx : ¬ (x < 1 ∨ nI vn < x) := fun y => y.elim h1 h2
      have bad : ∀ {G : pm_G}, (v < -999999 ∨ 999999 < v ∨ t < 0 ∨ 100000 < t) → mo_at G0 a A (va_up I 0 0) J M W G → ev_W l X m_Mo_answer 0 0 0 (fun r G' => ((x < 1 ∨ nI vn < x) ∧ r = some (.int (-1)) ∧ mo_at G0 a A (va_up I 0 0) J M W G') ∨ (¬ (x < 1 ∨ nI vn < x) ∧ (v < -999999 ∨ 999999 < v ∨ t < 0 ∨ 100000 < t) ∧ r = some (.int (-2)) ∧ mo_at G0 a A (va_up I 0 0) J M W G') ∨ (¬ (x < 1 ∨ nI vn < x) ∧ ¬ (v < -999999 ∨ 999999 < v ∨ t < 0 ∨ 100000 < t) ∧ 200 ≤ N ∧ r = some (.int (-4)) ∧ mo_at G0 a A (va_up I 0 0) J M W G') ∨
      (¬ (x < 1 ∨ nI vn < x) ∧ ¬ (v < -999999 ∨ 999999 < v ∨ t < 0 ∨ 100000 < t) ∧ N < 200 ∧ r = some (.int (nI (N + 1))) ∧ mo_at G0 a A (va_up (va_up I 0 0) 38 (nI (N + 1))) J (va_up M 39 (upd (M 39) N x)) (va_up (va_up W 40 (vp_updL (W 40) N v)) 41 (vp_updL (W 41) N t)) G')) 0 0 52 [(0, .ref a), (1, .int x), (2, .long v), (4, .long t)] [] G := by
        intro G y hG
        refine ev_bipush (v := -2) d_Mo_answer_52 (by decide) ?_
        exact ev_iret d_Mo_answer_54 rfl (Or.inr (Or.inl ⟨hx, y, rfl, hG⟩))
      refine ev_lload_n d_Mo_answer_20 rfl rfl ?_
      refine ev_ldc2 d_Mo_answer_21 hw_1191 ?_
      refine ev_lcmp d_Mo_answer_24 ?_
      refine ev_if_lt 52 d_Mo_answer_25 (by decide) (fun g1 => ?_) (fun g1 => ?_)
      · exact bad (Or.inl ((lg_cmp_lt _ _).mp g1)) hG
      · have g1 : ¬ v < -999999 := fun y => g1 ((lg_cmp_lt _ _).mpr y)
        refine ev_lload_n d_Mo_answer_28 rfl rfl ?_
        refine ev_ldc2 d_Mo_answer_29 hw_1192 ?_
        refine ev_lcmp d_Mo_answer_32 ?_
        refine ev_if_gt 52 d_Mo_answer_33 (by decide) (fun g2 => ?_) (fun g2 => ?_)
        · exact bad (Or.inr (Or.inl ((lg_cmp_gt _ _).mp g2))) hG
        · have g2 : ¬ 999999 < v := fun y => g2 ((lg_cmp_gt _ _).mpr y)
          refine ev_lload d_Mo_answer_36 rfl ?_
          refine ev_lconst (v := 0) d_Mo_answer_38 (by decide) ?_
          refine ev_lcmp d_Mo_answer_39 ?_
          refine ev_if_lt 52 d_Mo_answer_40 (by decide) (fun g3 => ?_) (fun g3 => ?_)
          · exact bad (Or.inr (Or.inr (Or.inl ((lg_cmp_lt _ _).mp g3)))) hG
          · have g3 : ¬ t < 0 := fun y => g3 ((lg_cmp_lt _ _).mpr y)
            refine ev_lload d_Mo_answer_43 rfl ?_
            refine ev_ldc2 d_Mo_answer_45 hw_1219 ?_
            refine ev_lcmp d_Mo_answer_48 ?_
            by_cases g4 : 100000 < t
            · refine ev_if_le 55 d_Mo_answer_49 (by decide) (fun y => absurd ((lg_cmp_gt _ _).mpr g4) (Int32.not_lt.mpr y)) (fun _ => ?_)
              exact bad (Or.inr (Or.inr (Or.inr g4))) hG
            · refine ev_if_le 55 d_Mo_answer_49 (by decide) (fun _ => ?_) (fun y => absurd ((lg_cmp_gt _ _).mp (Int32.not_le.mp y)) g4)
              have hv : ¬ (v < -999999 ∨ 999999 < v ∨ t < 0 ∨ 100000 < t) := fun y => y.elim g1 (fun y => y.elim g2 (fun y => y.elim g3 g4))
              refine ev_aload_n d_Mo_answer_55 rfl rfl ?_
              refine em_getI (i := 38) hG d_Mo_answer_56 fo_Mo_229 rfl (by (repeat (first | apply va_up_t (h := by decide) | apply mo_w_t (h5 := by decide) (h7 := by decide) (h8 := by decide) | exact va_up_s | exact mo_w_5 | exact mo_w_7 | exact mo_w_8 | assumption)); all_goals rfl) ?_
              refine ev_sipush (v := 200) d_Mo_answer_59 (by decide) ?_
              refine ev_icmp_ne 68 d_Mo_answer_62 (by decide) (fun h3 => ?_) (fun h3 => ?_)
              · have h3 : N < 200 := by
                  rcases Nat.lt_or_ge N 200 with y | y
                  · exact y
                  · exact absurd (by rw [show N = 200 by omega]; rfl) h3
                refine ev_aload_n d_Mo_answer_68 rfl rfl ?_
                refine em_getA (i := 39) hG d_Mo_answer_69 fo_Mo_84 rfl ?_
                refine ev_aload_n d_Mo_answer_72 rfl rfl ?_
                refine em_getI (i := 38) hG d_Mo_answer_73 fo_Mo_229 rfl (by (repeat (first | apply va_up_t (h := by decide) | apply mo_w_t (h5 := by decide) (h7 := by decide) (h8 := by decide) | exact va_up_s | exact mo_w_5 | exact mo_w_7 | exact mo_w_8 | assumption)); all_goals rfl) ?_
                refine ev_iload_n d_Mo_answer_76 rfl rfl ?_
                refine em_iast (i := 39) (N := 200) hG d_Mo_answer_77 rfl rfl (by decide) (by omega) (fun G hG => ?_)
                refine ev_aload_n d_Mo_answer_78 rfl rfl ?_
                refine em_getA (i := 40) hG d_Mo_answer_79 fo_Mo_87 rfl ?_
                refine ev_aload_n d_Mo_answer_82 rfl rfl ?_
                refine em_getI (i := 38) hG d_Mo_answer_83 fo_Mo_229 rfl (by (repeat (first | apply va_up_t (h := by decide) | apply mo_w_t (h5 := by decide) (h7 := by decide) (h8 := by decide) | exact va_up_s | exact mo_w_5 | exact mo_w_7 | exact mo_w_8 | assumption)); all_goals rfl) ?_
                refine ev_lload_n d_Mo_answer_86 rfl rfl ?_
                refine em_last (i := 40) (N := 200) hG d_Mo_answer_87 rfl rfl (by decide) (by omega) (fun G hG => ?_)
                refine ev_aload_n d_Mo_answer_88 rfl rfl ?_
                refine em_getA (i := 41) hG d_Mo_answer_89 fo_Mo_90 rfl ?_
                refine ev_aload_n d_Mo_answer_92 rfl rfl ?_
                refine em_getI (i := 38) hG d_Mo_answer_93 fo_Mo_229 rfl (by (repeat (first | apply va_up_t (h := by decide) | apply mo_w_t (h5 := by decide) (h7 := by decide) (h8 := by decide) | exact va_up_s | exact mo_w_5 | exact mo_w_7 | exact mo_w_8 | assumption)); all_goals rfl) ?_
                refine ev_lload d_Mo_answer_96 rfl ?_
                refine em_last (i := 41) (N := 200) hG d_Mo_answer_98 rfl rfl (by decide) (by omega) (fun G hG => ?_)
                refine ev_aload_n d_Mo_answer_99 rfl rfl ?_
                refine ev_dup d_Mo_answer_100 rfl ?_
                refine em_getI (i := 38) hG d_Mo_answer_101 fo_Mo_229 rfl (by (repeat (first | apply va_up_t (h := by decide) | apply mo_w_t (h5 := by decide) (h7 := by decide) (h8 := by decide) | exact va_up_s | exact mo_w_5 | exact mo_w_7 | exact mo_w_8 | assumption)); all_goals rfl) ?_
                refine ev_iconst (v := 1) d_Mo_answer_104 (by decide) ?_
                refine ev_iadd d_Mo_answer_105 ?_
                rw [nI_1]
                refine em_putI (i := 38) hG d_Mo_answer_106 fo_Mo_229 rfl rfl (by decide) mv_38 (fun G hG => ?_)
                refine ev_aload_n d_Mo_answer_109 rfl rfl ?_
                refine em_getI (i := 38) hG d_Mo_answer_110 fo_Mo_229 rfl (by (repeat (first | apply va_up_t (h := by decide) | apply mo_w_t (h5 := by decide) (h7 := by decide) (h8 := by decide) | exact va_up_s | exact mo_w_5 | exact mo_w_7 | exact mo_w_8 | assumption)); all_goals rfl) ?_
                exact ev_iret d_Mo_answer_113 rfl (Or.inr (Or.inr (Or.inr ⟨hx, hv, h3, rfl, hG⟩)))
              · have h3 : N = 200 := (nI_eq (by omega) (b := 200) (by omega)).mp h3
                refine ev_bipush (v := -4) d_Mo_answer_65 (by decide) ?_
                exact ev_iret d_Mo_answer_67 rfl (Or.inr (Or.inr (Or.inl ⟨hx, hv, by omega, rfl, hG⟩)))
/-- an answer more, on both sides -/
theorem ma_ok.add {i T : Nat} {w : Int32} {n' : Nat} {kf' : Nat → Nat} {vf' : Nat → Int32} (h : ma_ok N n kf vf av at' ax) (hN : N < 200) (h0 : 0 < i) (hi : i ≤ 20) (hT : T ≤ 100000) (hw : w ≠ -1000000) (hr : ∀ a b, a < b → b < n' → kf' a < kf' b) (ha : ∀ q x, an_has n' kf' vf' q x ↔ (q = i * 100001 + T ∧ x = w) ∨ (q ≠ i * 100001 + T ∧ an_has n kf vf q x)) : ma_ok (N + 1) n' kf' vf' (va_up av N i) (va_up at' N T) (va_up ax N w) := by
  obtain ⟨h1, h2, h3, h4⟩ := h
  refine ⟨by omega, fun b hb => ?_, hr, fun q y => ?_⟩
  · by_cases z : b = N
    · rw [z, va_up_s, va_up_s, va_up_s]; exact ⟨h0, hi, hT, hw⟩
    · rw [va_up_n z, va_up_n z, va_up_n z]; exact h2 b (by omega)
  · rw [ha]
    constructor
    · rintro (⟨q1, q2⟩ | ⟨q1, q2⟩)
      · refine ⟨N, by omega, by rw [va_up_s, va_up_s, q1], by rw [va_up_s, q2], fun a' x1 x2 => by omega⟩
      · obtain ⟨b, b1, b2, b3, b4⟩ := (h4 q y).mp q2
        refine ⟨b, by omega, by rw [va_up_n (by omega), va_up_n (by omega)]; exact b2, by rw [va_up_n (by omega)]; exact b3, fun a' x1 x2 => ?_⟩
        by_cases z : a' = N
        · rw [z, va_up_s, va_up_s]; exact fun w => q1 w.symm
        · rw [va_up_n z, va_up_n z]; exact b4 a' x1 (by omega)
    · rintro ⟨b, b1, b2, b3, b4⟩
      by_cases z : b = N
      · rw [z, va_up_s, va_up_s] at b2
        rw [z, va_up_s] at b3
        exact Or.inl ⟨b2.symm, b3.symm⟩
      · rw [va_up_n z, va_up_n z] at b2
        rw [va_up_n z] at b3
        have b5 := b4 N (by omega) (by omega)
        rw [va_up_s, va_up_s] at b5
        refine Or.inr ⟨fun w => b5 w.symm, (h4 q y).mpr ⟨b, by omega, b2, b3, fun a' x1 x2 => ?_⟩⟩
        have := b4 a' x1 (by omega)
        rw [va_up_n (by omega), va_up_n (by omega)] at this
        exact this
/-- how many of the faults 1 .. k are on -/
def fbn (p : Int32) : Nat → Nat
  | 0 => 0
  | k + 1 => if fb p (k + 1) = 0 then fbn p k else fbn p k + 1
theorem fbn_le (p : Int32) : ∀ k, fbn p k ≤ k := by
  intro k
  induction k with
  | zero => exact Nat.le_refl _
  | succ k ih => rw [fbn]; split <;> omega
set_option maxHeartbeats 1000000 in
theorem c_Mo_plant {p y : Int32} {f : Int32} (hG : mo_at G0 a A I J M W G) (h42 : ∀ j, 1 ≤ j → j < 9 → M 42 j = fb p j) (hy : vp_nar .boolean y = y) (hy01 : y = 0 ∨ y = 1) : cn_M l X m_Mo_plant 0 0 0 [.ref a, .int f, .int y] G (fun r G' => ((f < 1 ∨ 8 < f) ∧ r = some (.int (-1)) ∧ mo_at G0 a A (va_up I 0 0) J M W G') ∨ (¬ (f < 1 ∨ 8 < f) ∧ ∃ p2, p2 = (if y = 0 then p &&& ((1 : Int32) <<< (f &&& 31) ^^^ (-1)) else p ||| (1 : Int32) <<< (f &&& 31)) ∧ r = some (.int (nI (fbn p2 8))) ∧ ∃ g, mo_at G0 a A (va_up I 0 0) J (va_up M 42 g) W G' ∧ ∀ j, 1 ≤ j → j < 9 → g j = fb p2 j)) := by
  refine cn_in rfl (Nat.le_of_ble_eq_true rfl) ?_
  refine ev_aload_n d_Mo_plant_0 rfl rfl ?_
  refine ev_iconst (v := 0) d_Mo_plant_1 (by decide) ?_
  refine em_putI (i := 0) hG d_Mo_plant_2 fo_Mo_127 rfl rfl (by decide) mv_0 (fun G hG => ?_)
  refine ev_iload_n d_Mo_plant_5 rfl rfl ?_
  refine ev_iconst (v := 1) d_Mo_plant_6 (by decide) ?_
  refine ev_icmp_lt 16 d_Mo_plant_7 (by decide) (fun h1 => ?_) (fun h1 => ?_)
  · refine ev_iconst (v := -1) d_Mo_plant_16 (by decide) ?_
    exact ev_iret d_Mo_plant_17 rfl (Or.inl ⟨Or.inl h1, rfl, hG⟩)
  · refine ev_iload_n d_Mo_plant_10 rfl rfl ?_
    refine ev_bipush (v := 8) d_Mo_plant_11 (by decide) ?_
    by_cases h2 : 8 < f
    · refine ev_icmp_le 18 d_Mo_plant_13 (by decide) (fun y => absurd h2 (Int32.not_lt.mpr y)) (fun _ => ?_)
      refine ev_iconst (v := -1) d_Mo_plant_16 (by decide) ?_
      exact ev_iret d_Mo_plant_17 rfl (Or.inl ⟨Or.inr h2, rfl, hG⟩)
    · refine ev_icmp_le 18 d_Mo_plant_13 (by decide) (fun _ => ?_) (fun y => absurd (Int32.not_le.mp y) h2)
      have hf : ¬ (f < 1 ∨ 8 < f) := fun y => y.elim h1 h2
      obtain ⟨j, j1, rfl⟩ := ix_of (n := 8) hf (by omega)
      refine ev_aload_n d_Mo_plant_18 rfl rfl ?_
      refine em_getA (i := 42) hG d_Mo_plant_19 fo_Mo_93 rfl ?_
      refine ev_iload_n d_Mo_plant_22 rfl rfl ?_
      refine ev_iload_n d_Mo_plant_23 rfl rfl ?_
      refine em_zast (i := 42) (N := 9) hG d_Mo_plant_24 rfl rfl (by decide) (by omega) (by first | assumption | exact cI_v | decide) (fun G hG => ?_)
      obtain ⟨p2, hp2⟩ : ∃ p2, p2 = (if y = 0 then p &&& ((1 : Int32) <<< (nI (j + 1) &&& 31) ^^^ (-1)) else p ||| (1 : Int32) <<< (nI (j + 1) &&& 31)) := ⟨_, rfl⟩
      have hg : ∀ k, 1 ≤ k → k < 9 → upd (M 42) (j + 1) y k = fb p2 k := by
        intro k k1 k2
        rcases hy01 with q | q
        · rw [hp2, if_pos q, fb_off k2 (by omega)]
          by_cases w : k = j + 1
          · rw [w, pk_us, if_pos rfl, q]
          · rw [pk_un w, if_neg w]; exact h42 k k1 k2
        · rw [hp2, if_neg (by rw [q]; decide), fb_on k2 (by omega)]
          by_cases w : k = j + 1
          · rw [w, pk_us, if_pos rfl, q]
          · rw [pk_un w, if_neg w]; exact h42 k k1 k2
      have loop : ∀ (m k : Nat), k + m = 8 → ev_W l X m_Mo_plant 0 0 0 (fun r G' => ((nI (j + 1) < 1 ∨ 8 < nI (j + 1)) ∧ r = some (.int (-1)) ∧ mo_at G0 a A (va_up I 0 0) J M W G') ∨ (¬ (nI (j + 1) < 1 ∨ 8 < nI (j + 1)) ∧ ∃ p2, p2 = (if y = 0 then p &&& ((1 : Int32) <<< (nI (j + 1) &&& 31) ^^^ (-1)) else p ||| (1 : Int32) <<< (nI (j + 1) &&& 31)) ∧ r = some (.int (nI (fbn p2 8))) ∧ ∃ g, mo_at G0 a A (va_up I 0 0) J (va_up M 42 g) W G' ∧ ∀ j, 1 ≤ j → j < 9 → g j = fb p2 j)) 0 0 30 [(0, .ref a), (1, .int (nI (j + 1))), (2, .int y), (3, .int (nI (fbn p2 k))), (4, .int (nI (k + 1)))] [] G := by
        intro m
        induction m with
        | zero =>
          intro k hk
          have k8 : k = 8 := by omega
          subst k8
          refine ev_iload d_Mo_plant_30 rfl ?_
          refine ev_bipush (v := 9) d_Mo_plant_32 (by decide) ?_
          refine ev_icmp_ge 61 d_Mo_plant_34 (by decide) (fun _ => ?_) (fun w => absurd (show (9 : Int32) ≤ nI (8 + 1) by decide) w)
          refine ev_iload_n d_Mo_plant_61 rfl rfl ?_
          exact ev_iret d_Mo_plant_62 rfl (Or.inr ⟨hf, p2, hp2, rfl, _, hG, hg⟩)
        | succ m ih =>
          intro k hk
          have g42 := hg (k + 1) (by omega) (by omega)
          have hle := fbn_le p2 k
          have ih2 := ih (k + 1) (by omega)
          refine ev_iload d_Mo_plant_30 rfl ?_
          refine ev_bipush (v := 9) d_Mo_plant_32 (by decide) ?_
          refine ev_icmp_ge 61 d_Mo_plant_34 (by decide) (fun w => absurd w (nI_ge (b := 9) (by omega) (by omega))) (fun _ => ?_)
          refine ev_aload_n d_Mo_plant_37 rfl rfl ?_
          refine em_getA (i := 42) hG d_Mo_plant_38 fo_Mo_93 rfl ?_
          refine ev_iload d_Mo_plant_41 rfl ?_
          refine em_zald (i := 42) (N := 9) (x := fb p2 (k + 1)) hG d_Mo_plant_43 rfl rfl (by decide) (by omega) ((congrFun va_up_s _).trans g42) ?_
          refine ev_if_eq 53 d_Mo_plant_44 (by decide) (fun hz => ?_) (fun hz => ?_)
          · rw [show fbn p2 (k + 1) = fbn p2 k by rw [fbn, if_pos hz]] at ih2
            refine ev_iload_n d_Mo_plant_53 rfl rfl ?_
            refine ev_istore_n d_Mo_plant_54 rfl (by decide) ?_
            refine ev_iinc d_Mo_plant_55 rfl (by first | exact nI_1 _ | rfl) (by decide) ?_
            refine ev_goto 30 d_Mo_plant_58 (by decide) ?_
            exact ih2
          · rw [show fbn p2 (k + 1) = fbn p2 k + 1 by rw [fbn, if_neg hz]] at ih2
            refine ev_iload_n d_Mo_plant_47 rfl rfl ?_
            refine ev_iconst (v := 1) d_Mo_plant_48 (by decide) ?_
            refine ev_iadd d_Mo_plant_49 ?_
            rw [nI_1]
            refine ev_goto 54 d_Mo_plant_50 (by decide) ?_
            refine ev_istore_n d_Mo_plant_54 rfl (by decide) ?_
            refine ev_iinc d_Mo_plant_55 rfl (by first | exact nI_1 _ | rfl) (by decide) ?_
            refine ev_goto 30 d_Mo_plant_58 (by decide) ?_
            exact ih2
      refine ev_iconst (v := 0) d_Mo_plant_25 (by decide) ?_
      refine ev_istore_n d_Mo_plant_26 rfl (by decide) ?_
      refine ev_iconst (v := 1) d_Mo_plant_27 (by decide) ?_
      refine ev_istore d_Mo_plant_28 (by decide) ?_
      exact loop 8 0 (by omega)
end M2
