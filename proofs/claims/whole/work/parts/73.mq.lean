/-! THE MODEL READS: is, number -/
section MQ
variable {l : Launch} {X : pm_X} {G G0 : pm_G} {a : Nat} {A : Nat → Nat} {I : Nat → Int32} {J : Nat → Int64} {M : Nat → Nat → Int32} {W : Nat → Nat → Int64} {sg : Nat → Nat} {p e n b f : Nat}
set_option maxHeartbeats 2000000 in
theorem c_Mo_is0 {L : Nat} {ch : Nat → Int32} (hG : mo_at G0 a A I J M W G) (hk : mk_ok sg M n) (h7 : I 7 = nI b) (h8 : I 8 = nI f) (hbf : b ≤ f) (hf : f ≤ n) (hn : n ≤ 4000) (hL : 1 ≤ L ∧ L ≤ 6) (hc1 : ∀ j, j < L → ch j ≠ 0) (hc2 : ∀ j, L ≤ j → j < 6 → ch j = 0) : cn_M l X m_Mo_is 0 0 0 [.ref a, .int (ch 0), .int (ch 1), .int (ch 2), .int (ch 3), .int (ch 4), .int (ch 5)] G (fun r G' => r = some (.int (cI (f - b = L ∧ ∀ j, j < L → nI (sg (b + j)) = ch j))) ∧ G = G') := by
  refine cn_in rfl (Nat.le_of_ble_eq_true rfl) ?_
  have out : ∀ (x : Int32) (j : Nat), x = cI (f - b = L ∧ ∀ j, j < L → nI (sg (b + j)) = ch j) → ev_W l X m_Mo_is 0 0 0 (fun r G' => r = some (.int (cI (f - b = L ∧ ∀ j, j < L → nI (sg (b + j)) = ch j))) ∧ G = G') 0 0 164 [(0, .ref a), (1, .int (ch 0)), (2, .int (ch 1)), (3, .int (ch 2)), (4, .int (ch 3)), (5, .int (ch 4)), (6, .int (ch 5)), (7, .int (nI L)), (8, .int x), (9, .int (nI j))] [] G := by
    intro x j hx
    subst hx
    refine ev_iload d_Mo_is_164 rfl ?_
    exact ev_zret d_Mo_is_166 rfl cI_n ⟨rfl, rfl⟩
  have head : ∀ (j : Nat), ¬ (f - b = L ∧ ∀ j, j < L → nI (sg (b + j)) = ch j) → ev_W l X m_Mo_is 0 0 0 (fun r G' => r = some (.int (cI (f - b = L ∧ ∀ j, j < L → nI (sg (b + j)) = ch j))) ∧ G = G') 0 0 71 [(0, .ref a), (1, .int (ch 0)), (2, .int (ch 1)), (3, .int (ch 2)), (4, .int (ch 3)), (5, .int (ch 4)), (6, .int (ch 5)), (7, .int (nI L)), (8, .int 0), (9, .int (nI j))] [] G := by
    intro j hs
    refine ev_iload d_Mo_is_71 rfl ?_
    refine ev_iload d_Mo_is_73 rfl ?_
    refine ev_icmp_ge 164 d_Mo_is_75 (by decide) (fun hc => ?_) (fun hc => ?_)
    · exact out 0 j (by rw [cI_f hs])
    · refine ev_iload d_Mo_is_78 rfl ?_
      refine ev_if_eq 164 d_Mo_is_80 (by decide) (fun _ => ?_) (fun z => absurd rfl z)
      exact out 0 j (by rw [cI_f hs])
  have sel : ∀ (j : Nat) (st : List Value), j < 6 → ev_W l X m_Mo_is 0 0 0 (fun r G' => r = some (.int (cI (f - b = L ∧ ∀ j, j < L → nI (sg (b + j)) = ch j))) ∧ G = G') 0 0 148 [(0, .ref a), (1, .int (ch 0)), (2, .int (ch 1)), (3, .int (ch 2)), (4, .int (ch 3)), (5, .int (ch 4)), (6, .int (ch 5)), (7, .int (nI L)), (8, .int 1), (9, .int (nI j))] (.int (ch j) :: st) G → ev_W l X m_Mo_is 0 0 0 (fun r G' => r = some (.int (cI (f - b = L ∧ ∀ j, j < L → nI (sg (b + j)) = ch j))) ∧ G = G') 0 0 95 [(0, .ref a), (1, .int (ch 0)), (2, .int (ch 1)), (3, .int (ch 2)), (4, .int (ch 3)), (5, .int (ch 4)), (6, .int (ch 5)), (7, .int (nI L)), (8, .int 1), (9, .int (nI j))] st G := by
    intro j st hj kk
    have hj6 : j = 0 ∨ j = 1 ∨ j = 2 ∨ j = 3 ∨ j = 4 ∨ j = 5 := by omega
    rcases hj6 with rfl | rfl | rfl | rfl | rfl | rfl
    · refine ev_iload d_Mo_is_95 rfl ?_
      refine ev_if_ne 104 d_Mo_is_97 (by decide) (fun z => absurd (by decide) z) (fun _ => ?_)
      refine ev_iload_n d_Mo_is_100 rfl rfl ?_
      refine ev_goto 148 d_Mo_is_101 (by decide) ?_
      exact kk
    · refine ev_iload d_Mo_is_95 rfl ?_
      refine ev_if_ne 104 d_Mo_is_97 (by decide) (fun _ => ?_) (fun z => absurd z (by decide))
      refine ev_iload d_Mo_is_104 rfl ?_
      refine ev_iconst (v := 1) d_Mo_is_106 (by decide) ?_
      refine ev_icmp_ne 114 d_Mo_is_107 (by decide) (fun z => absurd (by decide) z) (fun _ => ?_)
      refine ev_iload_n d_Mo_is_110 rfl rfl ?_
      refine ev_goto 148 d_Mo_is_111 (by decide) ?_
      exact kk
    · refine ev_iload d_Mo_is_95 rfl ?_
      refine ev_if_ne 104 d_Mo_is_97 (by decide) (fun _ => ?_) (fun z => absurd z (by decide))
      refine ev_iload d_Mo_is_104 rfl ?_
      refine ev_iconst (v := 1) d_Mo_is_106 (by decide) ?_
      refine ev_icmp_ne 114 d_Mo_is_107 (by decide) (fun _ => ?_) (fun z => absurd z (by decide))
      refine ev_iload d_Mo_is_114 rfl ?_
      refine ev_iconst (v := 2) d_Mo_is_116 (by decide) ?_
      refine ev_icmp_ne 124 d_Mo_is_117 (by decide) (fun z => absurd (by decide) z) (fun _ => ?_)
      refine ev_iload_n d_Mo_is_120 rfl rfl ?_
      refine ev_goto 148 d_Mo_is_121 (by decide) ?_
      exact kk
    · refine ev_iload d_Mo_is_95 rfl ?_
      refine ev_if_ne 104 d_Mo_is_97 (by decide) (fun _ => ?_) (fun z => absurd z (by decide))
      refine ev_iload d_Mo_is_104 rfl ?_
      refine ev_iconst (v := 1) d_Mo_is_106 (by decide) ?_
      refine ev_icmp_ne 114 d_Mo_is_107 (by decide) (fun _ => ?_) (fun z => absurd z (by decide))
      refine ev_iload d_Mo_is_114 rfl ?_
      refine ev_iconst (v := 2) d_Mo_is_116 (by decide) ?_
      refine ev_icmp_ne 124 d_Mo_is_117 (by decide) (fun _ => ?_) (fun z => absurd z (by decide))
      refine ev_iload d_Mo_is_124 rfl ?_
      refine ev_iconst (v := 3) d_Mo_is_126 (by decide) ?_
      refine ev_icmp_ne 135 d_Mo_is_127 (by decide) (fun z => absurd (by decide) z) (fun _ => ?_)
      refine ev_iload d_Mo_is_130 rfl ?_
      refine ev_goto 148 d_Mo_is_132 (by decide) ?_
      exact kk
    · refine ev_iload d_Mo_is_95 rfl ?_
      refine ev_if_ne 104 d_Mo_is_97 (by decide) (fun _ => ?_) (fun z => absurd z (by decide))
      refine ev_iload d_Mo_is_104 rfl ?_
      refine ev_iconst (v := 1) d_Mo_is_106 (by decide) ?_
      refine ev_icmp_ne 114 d_Mo_is_107 (by decide) (fun _ => ?_) (fun z => absurd z (by decide))
      refine ev_iload d_Mo_is_114 rfl ?_
      refine ev_iconst (v := 2) d_Mo_is_116 (by decide) ?_
      refine ev_icmp_ne 124 d_Mo_is_117 (by decide) (fun _ => ?_) (fun z => absurd z (by decide))
      refine ev_iload d_Mo_is_124 rfl ?_
      refine ev_iconst (v := 3) d_Mo_is_126 (by decide) ?_
      refine ev_icmp_ne 135 d_Mo_is_127 (by decide) (fun _ => ?_) (fun z => absurd z (by decide))
      refine ev_iload d_Mo_is_135 rfl ?_
      refine ev_iconst (v := 4) d_Mo_is_137 (by decide) ?_
      refine ev_icmp_ne 146 d_Mo_is_138 (by decide) (fun z => absurd (by decide) z) (fun _ => ?_)
      refine ev_iload d_Mo_is_141 rfl ?_
      refine ev_goto 148 d_Mo_is_143 (by decide) ?_
      exact kk
    · refine ev_iload d_Mo_is_95 rfl ?_
      refine ev_if_ne 104 d_Mo_is_97 (by decide) (fun _ => ?_) (fun z => absurd z (by decide))
      refine ev_iload d_Mo_is_104 rfl ?_
      refine ev_iconst (v := 1) d_Mo_is_106 (by decide) ?_
      refine ev_icmp_ne 114 d_Mo_is_107 (by decide) (fun _ => ?_) (fun z => absurd z (by decide))
      refine ev_iload d_Mo_is_114 rfl ?_
      refine ev_iconst (v := 2) d_Mo_is_116 (by decide) ?_
      refine ev_icmp_ne 124 d_Mo_is_117 (by decide) (fun _ => ?_) (fun z => absurd z (by decide))
      refine ev_iload d_Mo_is_124 rfl ?_
      refine ev_iconst (v := 3) d_Mo_is_126 (by decide) ?_
      refine ev_icmp_ne 135 d_Mo_is_127 (by decide) (fun _ => ?_) (fun z => absurd z (by decide))
      refine ev_iload d_Mo_is_135 rfl ?_
      refine ev_iconst (v := 4) d_Mo_is_137 (by decide) ?_
      refine ev_icmp_ne 146 d_Mo_is_138 (by decide) (fun _ => ?_) (fun z => absurd z (by decide))
      refine ev_iload d_Mo_is_146 rfl ?_
      exact kk
  have loop : ∀ (m j : Nat), j + m = L → f - b = L → (∀ i, i < j → nI (sg (b + i)) = ch i) → ev_W l X m_Mo_is 0 0 0 (fun r G' => r = some (.int (cI (f - b = L ∧ ∀ j, j < L → nI (sg (b + j)) = ch j))) ∧ G = G') 0 0 71 [(0, .ref a), (1, .int (ch 0)), (2, .int (ch 1)), (3, .int (ch 2)), (4, .int (ch 3)), (5, .int (ch 4)), (6, .int (ch 5)), (7, .int (nI L)), (8, .int 1), (9, .int (nI j))] [] G := by
    intro m
    induction m with
    | zero =>
      intro j hj hl hs
      refine ev_iload d_Mo_is_71 rfl ?_
      refine ev_iload d_Mo_is_73 rfl ?_
      refine ev_icmp_ge 164 d_Mo_is_75 (by decide) (fun hc => ?_) (fun hc => ?_)
      · exact out 1 j (by rw [cI_t ⟨hl, fun i hi => hs i (by omega)⟩])
      · exact absurd (nI_le (by omega) (by omega)) hc
    | succ m ih =>
      intro j hj hl hs
      have hk1 := (hk (b + j) (by omega)).1
      refine ev_iload d_Mo_is_71 rfl ?_
      refine ev_iload d_Mo_is_73 rfl ?_
      refine ev_icmp_ge 164 d_Mo_is_75 (by decide) (fun hc => ?_) (fun hc => ?_)
      · exact absurd hc (nI_ge (by omega) (by omega))
      · refine ev_iload d_Mo_is_78 rfl ?_
        refine ev_if_eq 164 d_Mo_is_80 (by decide) (fun z => absurd z (by decide)) (fun _ => ?_)
        refine ev_aload_n d_Mo_is_83 rfl rfl ?_
        refine em_getA (i := 4) hG d_Mo_is_84 fo_Mo_13 rfl ?_
        refine ev_aload_n d_Mo_is_87 rfl rfl ?_
        refine em_getI (i := 7) hG d_Mo_is_88 fo_Mo_140 rfl (by (repeat (first | apply va_up_t (h := by decide) | apply mo_w_t (h5 := by decide) (h7 := by decide) (h8 := by decide) | assumption | exact va_up_s | exact mo_w_5 | exact mo_w_7 | exact mo_w_8)); all_goals rfl) ?_
        refine ev_iload d_Mo_is_91 rfl ?_
        refine ev_iadd d_Mo_is_93 ?_
        rw [nI_add]
        refine em_iald (i := 4) (N := 4000) hG d_Mo_is_94 rfl rfl (by decide) (by omega) (by (repeat (first | apply va_up_mt (h := by decide) | apply va_up_ms | apply pk_ut (h := by omega) | apply pk_uLt (h := by omega) | assumption | exact pk_us | exact pk_uLs)); all_goals rfl) ?_
        refine sel j _ (by omega) ?_
        refine ev_icmp_ne 155 d_Mo_is_148 (by decide) (fun hd => ?_) (fun hd => ?_)
        · refine ev_iconst (v := 0) d_Mo_is_155 (by decide) ?_
          refine ev_istore d_Mo_is_156 (by decide) ?_
          refine ev_iinc d_Mo_is_158 rfl (by first | exact nI_1 _ | rfl) (by decide) ?_
          refine ev_goto 71 d_Mo_is_161 (by decide) ?_
          exact head (j + 1) (fun z => hd (z.2 j (by omega)))
        · refine ev_iconst (v := 1) d_Mo_is_151 (by decide) ?_
          refine ev_goto 156 d_Mo_is_152 (by decide) ?_
          refine ev_istore d_Mo_is_156 (by decide) ?_
          refine ev_iinc d_Mo_is_158 rfl (by first | exact nI_1 _ | rfl) (by decide) ?_
          refine ev_goto 71 d_Mo_is_161 (by decide) ?_
          refine ih (j + 1) (by omega) hl (fun i hi => ?_)
          by_cases z : i = j
          · rw [z]; exact hd
          · exact hs i (by omega)
  have go : ∀ (x : Int32), x = nI L → ev_W l X m_Mo_is 0 0 0 (fun r G' => r = some (.int (cI (f - b = L ∧ ∀ j, j < L → nI (sg (b + j)) = ch j))) ∧ G = G') 0 0 45 [(0, .ref a), (1, .int (ch 0)), (2, .int (ch 1)), (3, .int (ch 2)), (4, .int (ch 3)), (5, .int (ch 4)), (6, .int (ch 5))] [.int x] G := by
    intro x hx
    subst hx
    refine ev_istore d_Mo_is_45 (by decide) ?_
    refine ev_aload_n d_Mo_is_47 rfl rfl ?_
    refine em_getI (i := 8) hG d_Mo_is_48 fo_Mo_143 rfl (by (repeat (first | apply va_up_t (h := by decide) | apply mo_w_t (h5 := by decide) (h7 := by decide) (h8 := by decide) | assumption | exact va_up_s | exact mo_w_5 | exact mo_w_7 | exact mo_w_8)); all_goals rfl) ?_
    refine ev_aload_n d_Mo_is_51 rfl rfl ?_
    refine em_getI (i := 7) hG d_Mo_is_52 fo_Mo_140 rfl (by (repeat (first | apply va_up_t (h := by decide) | apply mo_w_t (h5 := by decide) (h7 := by decide) (h8 := by decide) | assumption | exact va_up_s | exact mo_w_5 | exact mo_w_7 | exact mo_w_8)); all_goals rfl) ?_
    refine ev_isub d_Mo_is_55 ?_
    rw [pk_sub hbf]
    refine ev_iload d_Mo_is_56 rfl ?_
    refine ev_icmp_ne 65 d_Mo_is_58 (by decide) (fun hc => ?_) (fun hc => ?_)
    · refine ev_iconst (v := 0) d_Mo_is_65 (by decide) ?_
      refine ev_istore d_Mo_is_66 (by decide) ?_
      refine ev_iconst (v := 0) d_Mo_is_68 (by decide) ?_
      refine ev_istore d_Mo_is_69 (by decide) ?_
      exact head 0 (fun z => hc (by rw [z.1]))
    · refine ev_iconst (v := 1) d_Mo_is_61 (by decide) ?_
      refine ev_goto 66 d_Mo_is_62 (by decide) ?_
      refine ev_istore d_Mo_is_66 (by decide) ?_
      refine ev_iconst (v := 0) d_Mo_is_68 (by decide) ?_
      refine ev_istore d_Mo_is_69 (by decide) ?_
      exact loop L 0 (by omega) ((nI_eq (by omega) (by omega)).mp hc) (fun i hi => by omega)
  have ge : ∀ j, j < 6 → ¬ ch j = 0 → j < L := fun j hj h => Nat.not_le.mp (fun z => h (hc2 j z hj))
  have le : ∀ j, ch j = 0 → L ≤ j := fun j h => Nat.not_lt.mp (fun z => hc1 j z h)
  refine ev_iload_n d_Mo_is_0 rfl rfl ?_
  refine ev_if_ne 8 d_Mo_is_1 (by decide) (fun h1 => ?_) (fun h1 => ?_)
  · have g1 := ge 1 (by omega) h1
    refine ev_iload_n d_Mo_is_8 rfl rfl ?_
    refine ev_if_ne 16 d_Mo_is_9 (by decide) (fun h2 => ?_) (fun h2 => ?_)
    · have g2 := ge 2 (by omega) h2
      refine ev_iload d_Mo_is_16 rfl ?_
      refine ev_if_ne 25 d_Mo_is_18 (by decide) (fun h3 => ?_) (fun h3 => ?_)
      · have g3 := ge 3 (by omega) h3
        refine ev_iload d_Mo_is_25 rfl ?_
        refine ev_if_ne 34 d_Mo_is_27 (by decide) (fun h4 => ?_) (fun h4 => ?_)
        · have g4 := ge 4 (by omega) h4
          refine ev_iload d_Mo_is_34 rfl ?_
          refine ev_if_ne 43 d_Mo_is_36 (by decide) (fun h5 => ?_) (fun h5 => ?_)
          · have g5 := ge 5 (by omega) h5
            refine ev_bipush (v := 6) d_Mo_is_43 (by decide) ?_
            exact go _ (by rw [show L = 6 by omega]; rfl)
          · have g5 := le 5 h5
            refine ev_iconst (v := 5) d_Mo_is_39 (by decide) ?_
            refine ev_goto 45 d_Mo_is_40 (by decide) ?_
            exact go _ (by rw [show L = 5 by omega]; rfl)
        · have g4 := le 4 h4
          refine ev_iconst (v := 4) d_Mo_is_30 (by decide) ?_
          refine ev_goto 45 d_Mo_is_31 (by decide) ?_
          exact go _ (by rw [show L = 4 by omega]; rfl)
      · have g3 := le 3 h3
        refine ev_iconst (v := 3) d_Mo_is_21 (by decide) ?_
        refine ev_goto 45 d_Mo_is_22 (by decide) ?_
        exact go _ (by rw [show L = 3 by omega]; rfl)
    · have g2 := le 2 h2
      refine ev_iconst (v := 2) d_Mo_is_12 (by decide) ?_
      refine ev_goto 45 d_Mo_is_13 (by decide) ?_
      exact go _ (by rw [show L = 2 by omega]; rfl)
  · have g1 := le 1 h1
    refine ev_iconst (v := 1) d_Mo_is_4 (by decide) ?_
    refine ev_goto 45 d_Mo_is_5 (by decide) ?_
    exact go _ (by rw [show L = 1 by omega]; rfl)
/-- the word b .. f is the text i -/
def wi_s (sg : Nat → Nat) (b f i : Nat) : Prop := f - b = pm_sl.getD i 0 ∧ ∀ j, j < pm_sl.getD i 0 → nI (sg (b + j)) = (pm_sb.getD i []).getD j 0
theorem wi_is {s k i : Nat} : w_is sg s e k i = wi_s sg (w_w sg s e k).1 (w_w sg s e k).2 i := rfl
theorem wi_all : ∀ i, i < 18 → pm_sl.getD i 0 ≤ 6 → (1 ≤ pm_sl.getD i 0 ∧ (∀ j, j < pm_sl.getD i 0 → (pm_sb.getD i []).getD j 0 ≠ 0) ∧ ∀ j, j < 6 → pm_sl.getD i 0 ≤ j → (pm_sb.getD i []).getD j 0 = 0) := by decide +kernel
theorem c_Mo_is (i : Nat) (hG : mo_at G0 a A I J M W G) (hk : mk_ok sg M n) (h7 : I 7 = nI b) (h8 : I 8 = nI f) (hbf : b ≤ f) (hf : f ≤ n) (hn : n ≤ 4000) (hi : i < 18) (h6 : pm_sl.getD i 0 ≤ 6) : cn_M l X m_Mo_is 0 0 0 [.ref a, .int ((pm_sb.getD i []).getD 0 0), .int ((pm_sb.getD i []).getD 1 0), .int ((pm_sb.getD i []).getD 2 0), .int ((pm_sb.getD i []).getD 3 0), .int ((pm_sb.getD i []).getD 4 0), .int ((pm_sb.getD i []).getD 5 0)] G (fun r G' => r = some (.int (cI (wi_s sg b f i))) ∧ G = G') := by
  obtain ⟨w1, w2, w3⟩ := wi_all i hi h6
  exact c_Mo_is0 (ch := fun j => (pm_sb.getD i []).getD j 0) hG hk h7 h8 hbf hf hn ⟨w1, h6⟩ w2 (fun j j1 j2 => w3 j j2 j1)
def mn_ok (lo hi : Int64) (x : Int32) : Prop := x ≠ -1000000 ∧ lo ≤ x.toInt64 ∧ x.toInt64 ≤ hi
theorem nu_good {t acc : Nat} (ht : t = w_st sg b) (hl : 1 ≤ f - t ∧ f - t ≤ 6) (hd : nd_k sg (f - t) t 0 = some acc) : nu_k sg b f ≠ -1000000 ∧ (nu_k sg b f).toInt64 = if sg b = 45 then - lN acc else lN acc := by
  have h1 := nd_k_lt _ _ _ _ hd
  have h2 : 10 ^ (f - t) ≤ 10 ^ 6 := Nat.pow_le_pow_right (by decide) hl.2
  have h3 : acc < 1000000 := by omega
  have e1 : nu_k sg b f = if sg b = 45 then - nI acc else nI acc := by rw [nu_k, ← ht, if_pos hl, hd]; rfl
  rw [e1]
  have n1 : (-nI acc).toInt = -(acc : Int) := sb_negT (by omega)
  have n2 : (nI acc).toInt = (acc : Int) := nI_toInt (by omega)
  have n3 : (-1000000 : Int32).toInt = -1000000 := by decide
  by_cases q : sg b = 45
  · rw [if_pos q, if_pos q]
    refine ⟨fun z => by rw [z, n3] at n1; omega, Int64.toInt_inj.mp ?_⟩
    rw [Int32.toInt_toInt64, n1, Int64.toInt_neg, lN_toInt (by omega), Int.bmod_eq_of_le (by omega) (by omega)]
  · rw [if_neg q, if_neg q]
    exact ⟨fun z => by rw [z, n3] at n2; omega, nI_l (by omega)⟩
theorem nu_bad {t : Nat} (ht : t = w_st sg b) (h : ¬ (1 ≤ f - t ∧ f - t ≤ 6) ∨ nd_k sg (f - t) t 0 = none) : nu_k sg b f = -1000000 := by
  unfold nu_k
  rw [← ht]
  by_cases q : 1 ≤ f - t ∧ f - t ≤ 6
  · rw [if_pos q, h.resolve_left (fun z => z q)]; rfl
  · rw [if_neg q]
set_option maxHeartbeats 2000000 in
theorem mo_num {lo hi : Int64} {t : Nat} (hk : mk_ok sg M f) (ht : t = w_st sg b) (hbt : b ≤ t) (htf : t ≤ f) (hf : f ≤ 4000) (hG : mo_at G0 a A (mo_w I b f) J M W G) : ev_W l X m_Mo_number 1 0 0 (fun r G' => r = some (.int (cI (mn_ok lo hi (nu_k sg b f)))) ∧ ∃ v, mo_at G0 a A (mo_w I b f) (va_up J 9 v) M W G' ∧ (mn_ok lo hi (nu_k sg b f) → v = (nu_k sg b f).toInt64)) 0 0 36 [(0, .ref a), (1, .long lo), (3, .long hi)] [.int (nI t)] G := by
  have h7 : mo_w I b f 7 = nI b := mo_w_7
  have h8 : mo_w I b f 8 = nI f := mo_w_8
  have bad151 : ∀ (k : Nat) (v : Int64) (G : pm_G), nu_k sg b f = -1000000 → mo_at G0 a A (mo_w I b f) (va_up J 9 v) M W G → ev_W l X m_Mo_number 1 0 0 (fun r G' => r = some (.int (cI (mn_ok lo hi (nu_k sg b f)))) ∧ ∃ v, mo_at G0 a A (mo_w I b f) (va_up J 9 v) M W G' ∧ (mn_ok lo hi (nu_k sg b f) → v = (nu_k sg b f).toInt64)) 0 0 151 [(0, .ref a), (1, .long lo), (3, .long hi), (5, .int (nI t)), (6, .int 0), (7, .int (nI k))] [] G := by
    intro k v G hb hG
    have tail : ∀ (v : Int64) (G : pm_G), mo_at G0 a A (mo_w I b f) (va_up J 9 v) M W G → ev_W l X m_Mo_number 1 0 0 (fun r G' => r = some (.int (cI (mn_ok lo hi (nu_k sg b f)))) ∧ ∃ v, mo_at G0 a A (mo_w I b f) (va_up J 9 v) M W G' ∧ (mn_ok lo hi (nu_k sg b f) → v = (nu_k sg b f).toInt64)) 0 0 176 [(0, .ref a), (1, .long lo), (3, .long hi), (5, .int (nI t)), (6, .int 0), (7, .int (nI k))] [] G := by
      intro v G hG
      refine ev_iload d_Mo_number_176 rfl ?_
      refine ev_if_eq 203 d_Mo_number_178 (by decide) (fun _ => ?_) (fun z => absurd rfl z)
      refine ev_iconst (v := 0) d_Mo_number_203 (by decide) ?_
      exact ev_zret d_Mo_number_204 rfl rfl (⟨by rw [cI_f (fun z => z.1 hb)], v, hG, fun z => absurd hb z.1⟩)
    refine ev_aload_n d_Mo_number_151 rfl rfl ?_
    refine ev_iload d_Mo_number_152 rfl ?_
    refine ev_aload_n d_Mo_number_154 rfl rfl ?_
    refine em_getI (i := 7) hG d_Mo_number_155 fo_Mo_140 rfl (by (repeat (first | apply va_up_t (h := by decide) | apply mo_w_t (h5 := by decide) (h7 := by decide) (h8 := by decide) | assumption | exact va_up_s | exact mo_w_5 | exact mo_w_7 | exact mo_w_8)); all_goals rfl) ?_
    refine ev_icmp_le 169 d_Mo_number_158 (by decide) (fun hc => ?_) (fun hc => ?_)
    · refine ev_aload_n d_Mo_number_169 rfl rfl ?_
      refine em_getJ (i := 9) hG d_Mo_number_170 fo_Mo_150 rfl (by (repeat (first | apply va_up_t (h := by decide) | apply mo_w_t (h5 := by decide) (h7 := by decide) (h8 := by decide) | assumption | exact va_up_s | exact mo_w_5 | exact mo_w_7 | exact mo_w_8)); all_goals rfl) ?_
      refine em_putJ (i := 9) hG d_Mo_number_173 fo_Mo_150 rfl rfl (by decide) mv_9 (fun G hG => ?_)
      rw [va_up2] at hG
      exact tail _ G hG
    · refine ev_aload_n d_Mo_number_161 rfl rfl ?_
      refine em_getJ (i := 9) hG d_Mo_number_162 fo_Mo_150 rfl (by (repeat (first | apply va_up_t (h := by decide) | apply mo_w_t (h5 := by decide) (h7 := by decide) (h8 := by decide) | assumption | exact va_up_s | exact mo_w_5 | exact mo_w_7 | exact mo_w_8)); all_goals rfl) ?_
      refine ev_lneg d_Mo_number_165 ?_
      refine ev_goto 173 d_Mo_number_166 (by decide) ?_
      refine em_putJ (i := 9) hG d_Mo_number_173 fo_Mo_150 rfl rfl (by decide) mv_9 (fun G hG => ?_)
      rw [va_up2] at hG
      exact tail _ G hG
  have bad75 : ∀ (k : Nat) (v : Int64) (G : pm_G), nu_k sg b f = -1000000 → mo_at G0 a A (mo_w I b f) (va_up J 9 v) M W G → ev_W l X m_Mo_number 1 0 0 (fun r G' => r = some (.int (cI (mn_ok lo hi (nu_k sg b f)))) ∧ ∃ v, mo_at G0 a A (mo_w I b f) (va_up J 9 v) M W G' ∧ (mn_ok lo hi (nu_k sg b f) → v = (nu_k sg b f).toInt64)) 0 0 75 [(0, .ref a), (1, .long lo), (3, .long hi), (5, .int (nI t)), (6, .int 0), (7, .int (nI k))] [] G := by
    intro k v G hb hG
    refine ev_iload d_Mo_number_75 rfl ?_
    refine ev_aload_n d_Mo_number_77 rfl rfl ?_
    refine em_getI (i := 8) hG d_Mo_number_78 fo_Mo_143 rfl (by (repeat (first | apply va_up_t (h := by decide) | apply mo_w_t (h5 := by decide) (h7 := by decide) (h8 := by decide) | assumption | exact va_up_s | exact mo_w_5 | exact mo_w_7 | exact mo_w_8)); all_goals rfl) ?_
    refine ev_icmp_ge 151 d_Mo_number_81 (by decide) (fun hc => ?_) (fun hc => ?_)
    · exact bad151 k v G hb hG
    · refine ev_iload d_Mo_number_84 rfl ?_
      refine ev_if_eq 151 d_Mo_number_86 (by decide) (fun _ => ?_) (fun z => absurd rfl z)
      exact bad151 k v G hb hG
  have good151 : ∀ (acc : Nat) (G : pm_G), (1 ≤ f - t ∧ f - t ≤ 6) → nd_k sg (f - t) t 0 = some acc → mo_at G0 a A (mo_w I b f) (va_up J 9 (lN acc)) M W G → ev_W l X m_Mo_number 1 0 0 (fun r G' => r = some (.int (cI (mn_ok lo hi (nu_k sg b f)))) ∧ ∃ v, mo_at G0 a A (mo_w I b f) (va_up J 9 v) M W G' ∧ (mn_ok lo hi (nu_k sg b f) → v = (nu_k sg b f).toInt64)) 0 0 151 [(0, .ref a), (1, .long lo), (3, .long hi), (5, .int (nI t)), (6, .int 1), (7, .int (nI f))] [] G := by
    intro acc G hl hd hG
    have u := nu_good ht hl hd
    have u1 := u.1
    have tail : ∀ (v : Int64) (G : pm_G), v = (nu_k sg b f).toInt64 → mo_at G0 a A (mo_w I b f) (va_up J 9 v) M W G → ev_W l X m_Mo_number 1 0 0 (fun r G' => r = some (.int (cI (mn_ok lo hi (nu_k sg b f)))) ∧ ∃ v, mo_at G0 a A (mo_w I b f) (va_up J 9 v) M W G' ∧ (mn_ok lo hi (nu_k sg b f) → v = (nu_k sg b f).toInt64)) 0 0 176 [(0, .ref a), (1, .long lo), (3, .long hi), (5, .int (nI t)), (6, .int 1), (7, .int (nI f))] [] G := by
      intro v G hv hG
      subst hv
      refine ev_iload d_Mo_number_176 rfl ?_
      refine ev_if_eq 203 d_Mo_number_178 (by decide) (fun z => absurd z (by decide)) (fun _ => ?_)
      refine ev_aload_n d_Mo_number_181 rfl rfl ?_
      refine em_getJ (i := 9) hG d_Mo_number_182 fo_Mo_150 rfl (by (repeat (first | apply va_up_t (h := by decide) | apply mo_w_t (h5 := by decide) (h7 := by decide) (h8 := by decide) | assumption | exact va_up_s | exact mo_w_5 | exact mo_w_7 | exact mo_w_8)); all_goals rfl) ?_
      refine ev_lload_n d_Mo_number_185 rfl rfl ?_
      refine ev_lcmp d_Mo_number_186 ?_
      refine ev_if_lt 203 d_Mo_number_187 (by decide) (fun hc => ?_) (fun hc => ?_)
      · have hc := (lg_cmp_lt _ _).mp hc
        refine ev_iconst (v := 0) d_Mo_number_203 (by decide) ?_
        exact ev_zret d_Mo_number_204 rfl rfl (⟨by rw [cI_f (fun z => absurd z.2.1 (Int64.not_le.mpr hc))], _, hG, fun _ => rfl⟩)
      · have hc : lo ≤ (nu_k sg b f).toInt64 := Int64.not_lt.mp (fun z => hc ((lg_cmp_lt _ _).mpr z))
        refine ev_aload_n d_Mo_number_190 rfl rfl ?_
        refine em_getJ (i := 9) hG d_Mo_number_191 fo_Mo_150 rfl (by (repeat (first | apply va_up_t (h := by decide) | apply mo_w_t (h5 := by decide) (h7 := by decide) (h8 := by decide) | assumption | exact va_up_s | exact mo_w_5 | exact mo_w_7 | exact mo_w_8)); all_goals rfl) ?_
        refine ev_lload_n d_Mo_number_194 rfl rfl ?_
        refine ev_lcmp d_Mo_number_195 ?_
        refine ev_if_gt 203 d_Mo_number_196 (by decide) (fun hd => ?_) (fun hd => ?_)
        · have hd := (lg_cmp_gt _ _).mp hd
          refine ev_iconst (v := 0) d_Mo_number_203 (by decide) ?_
          exact ev_zret d_Mo_number_204 rfl rfl (⟨by rw [cI_f (fun z => absurd z.2.2 (Int64.not_le.mpr hd))], _, hG, fun _ => rfl⟩)
        · have hd : (nu_k sg b f).toInt64 ≤ hi := Int64.not_lt.mp (fun z => hd ((lg_cmp_gt _ _).mpr z))
          refine ev_iconst (v := 1) d_Mo_number_199 (by decide) ?_
          refine ev_goto 204 d_Mo_number_200 (by decide) ?_
          exact ev_zret d_Mo_number_204 rfl rfl (⟨by rw [cI_t ⟨u1, hc, hd⟩], _, hG, fun _ => rfl⟩)
    have hst : t = if sg b = 45 then b + 1 else b := ht
    refine ev_aload_n d_Mo_number_151 rfl rfl ?_
    refine ev_iload d_Mo_number_152 rfl ?_
    refine ev_aload_n d_Mo_number_154 rfl rfl ?_
    refine em_getI (i := 7) hG d_Mo_number_155 fo_Mo_140 rfl (by (repeat (first | apply va_up_t (h := by decide) | apply mo_w_t (h5 := by decide) (h7 := by decide) (h8 := by decide) | assumption | exact va_up_s | exact mo_w_5 | exact mo_w_7 | exact mo_w_8)); all_goals rfl) ?_
    refine ev_icmp_le 169 d_Mo_number_158 (by decide) (fun hc => ?_) (fun hc => ?_)
    · have hc : t ≤ b := (nI_leI (by omega) (by omega)).mp hc
      have q : ¬ sg b = 45 := fun q => by rw [if_pos q] at hst; omega
      refine ev_aload_n d_Mo_number_169 rfl rfl ?_
      refine em_getJ (i := 9) hG d_Mo_number_170 fo_Mo_150 rfl (by (repeat (first | apply va_up_t (h := by decide) | apply mo_w_t (h5 := by decide) (h7 := by decide) (h8 := by decide) | assumption | exact va_up_s | exact mo_w_5 | exact mo_w_7 | exact mo_w_8)); all_goals rfl) ?_
      refine em_putJ (i := 9) hG d_Mo_number_173 fo_Mo_150 rfl rfl (by decide) mv_9 (fun G hG => ?_)
      rw [va_up2] at hG
      exact tail _ G (by rw [u.2, if_neg q]) hG
    · have hc : ¬ t ≤ b := fun z => hc (nI_le z (by omega))
      have q : sg b = 45 := Classical.byContradiction fun q => by rw [if_neg q] at hst; omega
      refine ev_aload_n d_Mo_number_161 rfl rfl ?_
      refine em_getJ (i := 9) hG d_Mo_number_162 fo_Mo_150 rfl (by (repeat (first | apply va_up_t (h := by decide) | apply mo_w_t (h5 := by decide) (h7 := by decide) (h8 := by decide) | assumption | exact va_up_s | exact mo_w_5 | exact mo_w_7 | exact mo_w_8)); all_goals rfl) ?_
      refine ev_lneg d_Mo_number_165 ?_
      refine ev_goto 173 d_Mo_number_166 (by decide) ?_
      refine em_putJ (i := 9) hG d_Mo_number_173 fo_Mo_150 rfl rfl (by decide) mv_9 (fun G hG => ?_)
      rw [va_up2] at hG
      exact tail _ G (by rw [u.2, if_pos q]) hG
  have loop : ∀ (m k acc : Nat) (G : pm_G), k + m = f → t ≤ k → (1 ≤ f - t ∧ f - t ≤ 6) → nd_k sg (f - t) t 0 = nd_k sg m k acc → mo_at G0 a A (mo_w I b f) (va_up J 9 (lN acc)) M W G → ev_W l X m_Mo_number 1 0 0 (fun r G' => r = some (.int (cI (mn_ok lo hi (nu_k sg b f)))) ∧ ∃ v, mo_at G0 a A (mo_w I b f) (va_up J 9 v) M W G' ∧ (mn_ok lo hi (nu_k sg b f) → v = (nu_k sg b f).toInt64)) 0 0 75 [(0, .ref a), (1, .long lo), (3, .long hi), (5, .int (nI t)), (6, .int 1), (7, .int (nI k))] [] G := by
    intro m
    induction m with
    | zero =>
      intro k acc G hkm htk hl hd hG
      refine ev_iload d_Mo_number_75 rfl ?_
      refine ev_aload_n d_Mo_number_77 rfl rfl ?_
      refine em_getI (i := 8) hG d_Mo_number_78 fo_Mo_143 rfl (by (repeat (first | apply va_up_t (h := by decide) | apply mo_w_t (h5 := by decide) (h7 := by decide) (h8 := by decide) | assumption | exact va_up_s | exact mo_w_5 | exact mo_w_7 | exact mo_w_8)); all_goals rfl) ?_
      refine ev_icmp_ge 151 d_Mo_number_81 (by decide) (fun hc => ?_) (fun hc => ?_)
      · rw [show k = f by omega]
        exact good151 acc G hl hd hG
      · exact absurd (nI_le (by omega) (by omega)) hc
    | succ m ih =>
      intro k acc G hkm htk hl hd hG
      have hkk := (hk k (by omega)).1
      have hkb := (hk k (by omega)).2
      have bad118 : ∀ (G : pm_G), ¬ (48 ≤ sg k ∧ sg k ≤ 57) → mo_at G0 a A (mo_w I b f) (va_up J 9 (lN acc)) M W G → ev_W l X m_Mo_number 1 0 0 (fun r G' => r = some (.int (cI (mn_ok lo hi (nu_k sg b f)))) ∧ ∃ v, mo_at G0 a A (mo_w I b f) (va_up J 9 v) M W G' ∧ (mn_ok lo hi (nu_k sg b f) → v = (nu_k sg b f).toInt64)) 0 0 118 [(0, .ref a), (1, .long lo), (3, .long hi), (5, .int (nI t)), (6, .int 1), (7, .int (nI k))] [.int 0] G := by
        intro G hq hG
        have hb : nu_k sg b f = -1000000 := nu_bad ht (Or.inr (by rw [hd, nd_k, if_neg hq]))
        refine ev_istore d_Mo_number_118 (by decide) ?_
        refine ev_aload_n d_Mo_number_120 rfl rfl ?_
        refine ev_aload_n d_Mo_number_121 rfl rfl ?_
        refine em_getJ (i := 9) hG d_Mo_number_122 fo_Mo_150 rfl (by (repeat (first | apply va_up_t (h := by decide) | apply mo_w_t (h5 := by decide) (h7 := by decide) (h8 := by decide) | assumption | exact va_up_s | exact mo_w_5 | exact mo_w_7 | exact mo_w_8)); all_goals rfl) ?_
        refine ev_ldc2 d_Mo_number_125 hw_1197 ?_
        refine ev_lmul d_Mo_number_128 ?_
        refine ev_aload_n d_Mo_number_129 rfl rfl ?_
        refine em_getA (i := 4) hG d_Mo_number_130 fo_Mo_13 rfl ?_
        refine ev_iload d_Mo_number_133 rfl ?_
        refine em_iald (i := 4) (N := 4000) hG d_Mo_number_135 rfl rfl (by decide) (by omega) (by (repeat (first | apply va_up_mt (h := by decide) | apply va_up_ms | apply pk_ut (h := by omega) | apply pk_uLt (h := by omega) | assumption | exact pk_us | exact pk_uLs)); all_goals rfl) ?_
        refine ev_i2l d_Mo_number_136 ?_
        refine ev_ladd d_Mo_number_137 ?_
        refine ev_ldc2 d_Mo_number_138 hw_1198 ?_
        refine ev_lsub d_Mo_number_141 ?_
        refine em_putJ (i := 9) hG d_Mo_number_142 fo_Mo_150 rfl rfl (by decide) mv_9 (fun G hG => ?_)
        refine ev_iinc d_Mo_number_145 rfl (by first | exact nI_1 _ | rfl) (by decide) ?_
        refine ev_goto 75 d_Mo_number_148 (by decide) ?_
        rw [va_up2] at hG
        exact bad75 (k + 1) _ G hb hG
      refine ev_iload d_Mo_number_75 rfl ?_
      refine ev_aload_n d_Mo_number_77 rfl rfl ?_
      refine em_getI (i := 8) hG d_Mo_number_78 fo_Mo_143 rfl (by (repeat (first | apply va_up_t (h := by decide) | apply mo_w_t (h5 := by decide) (h7 := by decide) (h8 := by decide) | assumption | exact va_up_s | exact mo_w_5 | exact mo_w_7 | exact mo_w_8)); all_goals rfl) ?_
      refine ev_icmp_ge 151 d_Mo_number_81 (by decide) (fun hc => ?_) (fun hc => ?_)
      · exact absurd hc (nI_ge (by omega) (by omega))
      · refine ev_iload d_Mo_number_84 rfl ?_
        refine ev_if_eq 151 d_Mo_number_86 (by decide) (fun z => absurd z (by decide)) (fun _ => ?_)
        refine ev_aload_n d_Mo_number_89 rfl rfl ?_
        refine em_getA (i := 4) hG d_Mo_number_90 fo_Mo_13 rfl ?_
        refine ev_iload d_Mo_number_93 rfl ?_
        refine em_iald (i := 4) (N := 4000) hG d_Mo_number_95 rfl rfl (by decide) (by omega) (by (repeat (first | apply va_up_mt (h := by decide) | apply va_up_ms | apply pk_ut (h := by omega) | apply pk_uLt (h := by omega) | assumption | exact pk_us | exact pk_uLs)); all_goals rfl) ?_
        refine ev_bipush (v := 48) d_Mo_number_96 (by decide) ?_
        refine ev_icmp_lt 117 d_Mo_number_98 (by decide) (fun h1 => ?_) (fun h1 => ?_)
        · have : sg k < 48 := (nI_ltI (by omega) (b := 48) (by omega)).mp h1
          refine ev_iconst (v := 0) d_Mo_number_117 (by decide) ?_
          exact bad118 G (by omega) hG
        · have g1 : 48 ≤ sg k := Nat.not_lt.mp (fun z => h1 (nI_lt (b := 48) z (by omega)))
          refine ev_aload_n d_Mo_number_101 rfl rfl ?_
          refine em_getA (i := 4) hG d_Mo_number_102 fo_Mo_13 rfl ?_
          refine ev_iload d_Mo_number_105 rfl ?_
          refine em_iald (i := 4) (N := 4000) hG d_Mo_number_107 rfl rfl (by decide) (by omega) (by (repeat (first | apply va_up_mt (h := by decide) | apply va_up_ms | apply pk_ut (h := by omega) | apply pk_uLt (h := by omega) | assumption | exact pk_us | exact pk_uLs)); all_goals rfl) ?_
          refine ev_bipush (v := 57) d_Mo_number_108 (by decide) ?_
          refine ev_icmp_gt 117 d_Mo_number_110 (by decide) (fun h2 => ?_) (fun h2 => ?_)
          · have : 57 < sg k := Nat.not_le.mp (fun z => absurd h2 (nI_nlt (b := sg k) (a := 57) z (by omega)))
            refine ev_iconst (v := 0) d_Mo_number_117 (by decide) ?_
            exact bad118 G (by omega) hG
          · have g2 : sg k ≤ 57 := Nat.not_lt.mp (fun z => h2 (nI_lt (a := 57) z (by omega)))
            have ev : lN acc * 10 + (nI (sg k)).toInt64 - 48 = lN (acc * 10 + (sg k - 48)) := by
              rw [nI_l (by omega), show (10 : Int64) = lN 10 from rfl, lN_mul, lN_add, show (48 : Int64) = lN 48 from rfl, lN_sub (by omega)]
              exact congrArg lN (by omega)
            refine ev_iconst (v := 1) d_Mo_number_113 (by decide) ?_
            refine ev_goto 118 d_Mo_number_114 (by decide) ?_
            refine ev_istore d_Mo_number_118 (by decide) ?_
            refine ev_aload_n d_Mo_number_120 rfl rfl ?_
            refine ev_aload_n d_Mo_number_121 rfl rfl ?_
            refine em_getJ (i := 9) hG d_Mo_number_122 fo_Mo_150 rfl (by (repeat (first | apply va_up_t (h := by decide) | apply mo_w_t (h5 := by decide) (h7 := by decide) (h8 := by decide) | assumption | exact va_up_s | exact mo_w_5 | exact mo_w_7 | exact mo_w_8)); all_goals rfl) ?_
            refine ev_ldc2 d_Mo_number_125 hw_1197 ?_
            refine ev_lmul d_Mo_number_128 ?_
            refine ev_aload_n d_Mo_number_129 rfl rfl ?_
            refine em_getA (i := 4) hG d_Mo_number_130 fo_Mo_13 rfl ?_
            refine ev_iload d_Mo_number_133 rfl ?_
            refine em_iald (i := 4) (N := 4000) hG d_Mo_number_135 rfl rfl (by decide) (by omega) (by (repeat (first | apply va_up_mt (h := by decide) | apply va_up_ms | apply pk_ut (h := by omega) | apply pk_uLt (h := by omega) | assumption | exact pk_us | exact pk_uLs)); all_goals rfl) ?_
            refine ev_i2l d_Mo_number_136 ?_
            refine ev_ladd d_Mo_number_137 ?_
            refine ev_ldc2 d_Mo_number_138 hw_1198 ?_
            refine ev_lsub d_Mo_number_141 ?_
            refine em_putJ (i := 9) hG d_Mo_number_142 fo_Mo_150 rfl rfl (by decide) mv_9 (fun G hG => ?_)
            refine ev_iinc d_Mo_number_145 rfl (by first | exact nI_1 _ | rfl) (by decide) ?_
            refine ev_goto 75 d_Mo_number_148 (by decide) ?_
            rw [va_up2, ev] at hG
            exact ih (k + 1) _ G (by omega) (by omega) hl (by rw [hd, nd_k, if_pos ⟨g1, g2⟩]) hG
  have bad64 : ¬ (1 ≤ f - t ∧ f - t ≤ 6) → ev_W l X m_Mo_number 1 0 0 (fun r G' => r = some (.int (cI (mn_ok lo hi (nu_k sg b f)))) ∧ ∃ v, mo_at G0 a A (mo_w I b f) (va_up J 9 v) M W G' ∧ (mn_ok lo hi (nu_k sg b f) → v = (nu_k sg b f).toInt64)) 0 0 64 [(0, .ref a), (1, .long lo), (3, .long hi), (5, .int (nI t))] [.int 0] G := by
    intro hl
    refine ev_istore d_Mo_number_64 (by decide) ?_
    refine ev_aload_n d_Mo_number_66 rfl rfl ?_
    refine ev_lconst (v := 0) d_Mo_number_67 (by decide) ?_
    refine em_putJ (i := 9) hG d_Mo_number_68 fo_Mo_150 rfl rfl (by decide) mv_9 (fun G hG => ?_)
    refine ev_iload d_Mo_number_71 rfl ?_
    refine ev_istore d_Mo_number_73 (by decide) ?_
    exact bad75 t _ G (nu_bad ht (Or.inl hl)) hG
  refine ev_istore d_Mo_number_36 (by decide) ?_
  refine ev_aload_n d_Mo_number_38 rfl rfl ?_
  refine em_getI (i := 8) hG d_Mo_number_39 fo_Mo_143 rfl (by (repeat (first | apply va_up_t (h := by decide) | apply mo_w_t (h5 := by decide) (h7 := by decide) (h8 := by decide) | assumption | exact va_up_s | exact mo_w_5 | exact mo_w_7 | exact mo_w_8)); all_goals rfl) ?_
  refine ev_iload d_Mo_number_42 rfl ?_
  refine ev_icmp_le 63 d_Mo_number_44 (by decide) (fun hc => ?_) (fun hc => ?_)
  · have hc := (nI_leI (by omega) (by omega)).mp hc
    refine ev_iconst (v := 0) d_Mo_number_63 (by decide) ?_
    exact bad64 (by omega)
  · have hc : ¬ f ≤ t := fun z => hc (nI_le z (by omega))
    refine ev_aload_n d_Mo_number_47 rfl rfl ?_
    refine em_getI (i := 8) hG d_Mo_number_48 fo_Mo_143 rfl (by (repeat (first | apply va_up_t (h := by decide) | apply mo_w_t (h5 := by decide) (h7 := by decide) (h8 := by decide) | assumption | exact va_up_s | exact mo_w_5 | exact mo_w_7 | exact mo_w_8)); all_goals rfl) ?_
    refine ev_iload d_Mo_number_51 rfl ?_
    refine ev_isub d_Mo_number_53 ?_
    rw [pk_sub htf]
    refine ev_bipush (v := 7) d_Mo_number_54 (by decide) ?_
    refine ev_icmp_ge 63 d_Mo_number_56 (by decide) (fun hd => ?_) (fun hd => ?_)
    · have : 7 ≤ f - t := (nI_leI (a := 7) (by omega) (by omega)).mp hd
      refine ev_iconst (v := 0) d_Mo_number_63 (by decide) ?_
      exact bad64 (by omega)
    · have hd : ¬ 7 ≤ f - t := fun z => hd (nI_le (a := 7) z (by omega))
      refine ev_iconst (v := 1) d_Mo_number_59 (by decide) ?_
      refine ev_goto 64 d_Mo_number_60 (by decide) ?_
      refine ev_istore d_Mo_number_64 (by decide) ?_
      refine ev_aload_n d_Mo_number_66 rfl rfl ?_
      refine ev_lconst (v := 0) d_Mo_number_67 (by decide) ?_
      refine em_putJ (i := 9) hG d_Mo_number_68 fo_Mo_150 rfl rfl (by decide) mv_9 (fun G hG => ?_)
      refine ev_iload d_Mo_number_71 rfl ?_
      refine ev_istore d_Mo_number_73 (by decide) ?_
      exact loop (f - t) t 0 G (by omega) (by omega) (by omega) rfl hG
theorem c_Mo_number {lo hi : Int64} (hG : mo_at G0 a A I J M W G) (hk : mk_ok sg M e) (h5 : I 5 = nI p) (h6 : I 6 = nI e) (hp : p ≤ e) (he : e ≤ 4000) (hb : b = (w_at sg e p).1) (hf : f = (w_at sg e p).2) : cn_M l X m_Mo_number 1 0 0 [.ref a, .long lo, .long hi] G (fun r G' => r = some (.int (cI (mn_ok lo hi (nu_k sg b f)))) ∧ ∃ v, mo_at G0 a A (mo_w I b f) (va_up J 9 v) M W G' ∧ (mn_ok lo hi (nu_k sg b f) → v = (nu_k sg b f).toInt64)) := by
  obtain ⟨w1, w2, w3, w4⟩ := w_at_b (sg := sg) hp
  refine cn_in rfl (Nat.le_of_ble_eq_true rfl) ?_
  refine ev_aload_n d_Mo_number_0 rfl rfl ?_
  refine ev_callV0 d_Mo_number_1 ck_Mo_next ml_Mo_146 im_Mo_next se_Mo_next rfl hG.1 (c_Mo_next hG hk h5 h6 hp he) (by omega) (Nat.le_of_ble_eq_true rfl) (by omega) (by omega) ?_
  rintro _ G ⟨rfl, hG⟩
  rw [← hb, ← hf] at *
  have h7 : mo_w I b f 7 = nI b := mo_w_7
  have h8 : mo_w I b f 8 = nI f := mo_w_8
  refine ev_if_ne 9 d_Mo_number_4 (by decide) (fun h0 => ?_) (fun h0 => ?_)
  · have h0 := cI_1 h0
    have hkk := (hk b (by omega)).1
    have hkb := (hk b (by omega)).2
    have hkf : mk_ok sg M f := fun i hi => hk i (by omega)
    refine ev_aload_n d_Mo_number_9 rfl rfl ?_
    refine em_getA (i := 4) hG d_Mo_number_10 fo_Mo_13 rfl ?_
    refine ev_aload_n d_Mo_number_13 rfl rfl ?_
    refine em_getI (i := 7) hG d_Mo_number_14 fo_Mo_140 rfl (by (repeat (first | apply va_up_t (h := by decide) | apply mo_w_t (h5 := by decide) (h7 := by decide) (h8 := by decide) | assumption | exact va_up_s | exact mo_w_5 | exact mo_w_7 | exact mo_w_8)); all_goals rfl) ?_
    refine em_iald (i := 4) (N := 4000) hG d_Mo_number_17 rfl rfl (by decide) (by omega) (by (repeat (first | apply va_up_mt (h := by decide) | apply va_up_ms | apply pk_ut (h := by omega) | apply pk_uLt (h := by omega) | assumption | exact pk_us | exact pk_uLs)); all_goals rfl) ?_
    refine ev_bipush (v := 45) d_Mo_number_18 (by decide) ?_
    refine ev_icmp_ne 32 d_Mo_number_20 (by decide) (fun hc => ?_) (fun hc => ?_)
    · have q : ¬ sg b = 45 := fun z => hc (by rw [z]; rfl)
      refine ev_aload_n d_Mo_number_32 rfl rfl ?_
      refine em_getI (i := 7) hG d_Mo_number_33 fo_Mo_140 rfl (by (repeat (first | apply va_up_t (h := by decide) | apply mo_w_t (h5 := by decide) (h7 := by decide) (h8 := by decide) | assumption | exact va_up_s | exact mo_w_5 | exact mo_w_7 | exact mo_w_8)); all_goals rfl) ?_
      exact mo_num hkf (by rw [w_st, if_neg q]) (by omega) (by omega) (by omega) hG
    · have q : sg b = 45 := (nI_eq (by omega) (b := 45) (by omega)).mp hc
      refine ev_aload_n d_Mo_number_23 rfl rfl ?_
      refine em_getI (i := 7) hG d_Mo_number_24 fo_Mo_140 rfl (by (repeat (first | apply va_up_t (h := by decide) | apply mo_w_t (h5 := by decide) (h7 := by decide) (h8 := by decide) | assumption | exact va_up_s | exact mo_w_5 | exact mo_w_7 | exact mo_w_8)); all_goals rfl) ?_
      refine ev_iconst (v := 1) d_Mo_number_27 (by decide) ?_
      refine ev_iadd d_Mo_number_28 ?_
      rw [nI_1]
      refine ev_goto 36 d_Mo_number_29 (by decide) ?_
      exact mo_num hkf (by rw [w_st, if_pos q]) (by omega) (by omega) (by omega) hG
  · have h0 := cI_0 h0
    have hbad : nu_k sg b f = -1000000 := by
      refine nu_bad rfl (Or.inl ?_)
      unfold w_st
      split <;> omega
    refine ev_iconst (v := 0) d_Mo_number_7 (by decide) ?_
    exact ev_zret d_Mo_number_8 rfl rfl (⟨by rw [cI_f (fun z => z.1 hbad)], J 9, by rw [va_up0]; exact hG, fun z => absurd hbad z.1⟩)
end MQ
