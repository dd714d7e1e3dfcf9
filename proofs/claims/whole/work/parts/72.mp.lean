/-! THE MODEL READS: next, through, isName, same, is -/
/-- the signs that are kept -/
def mk_ok (sg : Nat → Nat) (M : Nat → Nat → Int32) (n : Nat) : Prop := ∀ k, k < n → M 4 k = nI (sg k) ∧ sg k < 128
theorem mk_up {sg : Nat → Nat} {M : Nat → Nat → Int32} {n k : Nat} {y : Nat → Int32} (h2 : mk_ok sg M n) (h : 4 ≠ k) : mk_ok sg (va_up M k y) n := fun i hi => by rw [show va_up M k y 4 = M 4 from if_neg h]; exact h2 i hi
theorem mk_le {sg : Nat → Nat} {M : Nat → Nat → Int32} {n m : Nat} (h2 : mk_ok sg M n) (h : m ≤ n) : mk_ok sg M m := fun i hi => h2 i (Nat.lt_of_lt_of_le hi h)
/-- the word b .. f is the one looked at -/
def mo_w (I : Nat → Int32) (b f : Nat) : Nat → Int32 := va_up (va_up (va_up I 5 (nI f)) 7 (nI b)) 8 (nI f)
theorem mo_w_n {I : Nat → Int32} {b f i : Nat} (h5 : i ≠ 5) (h7 : i ≠ 7) (h8 : i ≠ 8) : mo_w I b f i = I i := by
  unfold mo_w
  rw [va_up_n h8, va_up_n h7, va_up_n h5]
theorem mo_w_t {I : Nat → Int32} {b f i : Nat} {x : Int32} (h2 : I i = x) (h5 : i ≠ 5) (h7 : i ≠ 7) (h8 : i ≠ 8) : mo_w I b f i = x := (mo_w_n h5 h7 h8).trans h2
theorem mo_w_5 {I : Nat → Int32} {b f : Nat} : mo_w I b f 5 = nI f := (va_up_n (by decide)).trans ((va_up_n (by decide)).trans va_up_s)
theorem mo_w_7 {I : Nat → Int32} {b f : Nat} : mo_w I b f 7 = nI b := (va_up_n (by decide)).trans va_up_s
theorem mo_w_8 {I : Nat → Int32} {b f : Nat} : mo_w I b f 8 = nI f := va_up_s
/-- the key of the word b .. f -/
def ky (sg : Nat → Nat) (b f : Nat) : Nat := if f - b ≤ 8 then (nm_k sg (f - b) b 0).getD 0 else 0
theorem ky_is {sg : Nat → Nat} {s e k : Nat} : w_key sg s e k = ky sg (w_w sg s e k).1 (w_w sg s e k).2 := rfl
theorem nm_all {sg : Nat → Nat} : ∀ (m p a : Nat), (∀ j, p ≤ j → j < p + m → 97 ≤ sg j ∧ sg j ≤ 122) → ∃ v, nm_k sg m p a = some v ∧ (0 < a ∨ 0 < m → 0 < v) := by
  intro m
  induction m with
  | zero => intro p a _; exact ⟨a, rfl, fun h => by omega⟩
  | succ m ih =>
    intro p a h
    have h1 := h p (Nat.le_refl _) (by omega)
    obtain ⟨v, v1, v2⟩ := ih (p + 1) (a * 27 + (sg p - 96)) (fun j j1 j2 => h j (by omega) (by omega))
    exact ⟨v, by rw [nm_k, if_pos h1]; exact v1, fun _ => v2 (Or.inl (by omega))⟩
theorem nm_not {sg : Nat → Nat} : ∀ (m p a v : Nat), nm_k sg m p a = some v → ∀ j, p ≤ j → j < p + m → 97 ≤ sg j ∧ sg j ≤ 122 := by
  intro m
  induction m with
  | zero => intro p a v _ j j1 j2; omega
  | succ m ih =>
    intro p a v h j j1 j2
    rw [nm_k] at h
    by_cases q : 97 ≤ sg p ∧ sg p ≤ 122
    · rw [if_pos q] at h
      by_cases z : j = p
      · rw [z]; exact q
      · exact ih _ _ _ h j (by omega) (by omega)
    · rw [if_neg q] at h; cases h
/-- the word b .. f is a name -/
def is_nm (sg : Nat → Nat) (b f : Nat) : Prop := b < f ∧ f - b ≤ 8 ∧ ∀ j, b ≤ j → j < f → 97 ≤ sg j ∧ sg j ≤ 122
theorem ky_nm {sg : Nat → Nat} {b f : Nat} : is_nm sg b f ↔ ky sg b f ≠ 0 := by
  constructor
  · rintro ⟨h1, h2, h3⟩
    obtain ⟨v, v1, v2⟩ := nm_all (sg := sg) (f - b) b 0 (fun j j1 j2 => h3 j j1 (by omega))
    rw [ky, if_pos h2, v1]
    have := v2 (Or.inr (by omega))
    show v ≠ 0
    omega
  · intro h
    unfold ky at h
    by_cases q : f - b ≤ 8
    · rw [if_pos q] at h
      cases hn : nm_k sg (f - b) b 0 with
      | none => rw [hn] at h; exact absurd rfl h
      | some v =>
        have h3 := nm_not _ _ _ _ hn
        refine ⟨?_, q, fun j j1 j2 => h3 j j1 (by omega)⟩
        rcases Nat.lt_or_ge b f with z | z
        · exact z
        · rw [show f - b = 0 by omega] at h; exact absurd rfl h
    · rw [if_neg q] at h; exact absurd rfl h
section MP
variable {l : Launch} {X : pm_X} {G G0 : pm_G} {a : Nat} {A : Nat → Nat} {I : Nat → Int32} {J : Nat → Int64} {M : Nat → Nat → Int32} {W : Nat → Nat → Int64} {sg : Nat → Nat} {p e n b f : Nat}
set_option maxHeartbeats 1000000 in
theorem c_Mo_next (hG : mo_at G0 a A I J M W G) (hk : mk_ok sg M e) (h5 : I 5 = nI p) (h6 : I 6 = nI e) (hp : p ≤ e) (he : e ≤ 4000) : cn_M l X m_Mo_next 0 0 0 [.ref a] G (fun r G' => r = some (.int (cI ((w_at sg e p).1 < (w_at sg e p).2))) ∧ mo_at G0 a A (mo_w I (w_at sg e p).1 (w_at sg e p).2) J M W G') := by
  refine cn_in rfl (Nat.le_of_ble_eq_true rfl) ?_
  have loop2 : ∀ (m j : Nat) (G : pm_G), j + m = e → (w_at sg e p).1 ≤ j → (w_at sg e p).2 = w_en sg (e - j) j → mo_at G0 a A (va_up (va_up I 5 (nI j)) 7 (nI (w_at sg e p).1)) J M W G → ev_W l X m_Mo_next 0 0 0 (fun r G' => r = some (.int (cI ((w_at sg e p).1 < (w_at sg e p).2))) ∧ mo_at G0 a A (mo_w I (w_at sg e p).1 (w_at sg e p).2) J M W G') 0 0 46 [(0, .ref a)] [] G := by
    have fin : ∀ (j : Nat) (G : pm_G), j ≤ e → (w_at sg e p).1 ≤ j → (w_at sg e p).2 = j → mo_at G0 a A (va_up (va_up I 5 (nI j)) 7 (nI (w_at sg e p).1)) J M W G → ev_W l X m_Mo_next 0 0 0 (fun r G' => r = some (.int (cI ((w_at sg e p).1 < (w_at sg e p).2))) ∧ mo_at G0 a A (mo_w I (w_at sg e p).1 (w_at sg e p).2) J M W G') 0 0 84 [(0, .ref a)] [] G := by
      intro j G hj hfj hs hG
      refine ev_aload_n d_Mo_next_84 rfl rfl ?_
      refine ev_aload_n d_Mo_next_85 rfl rfl ?_
      refine em_getI (i := 5) hG d_Mo_next_86 fo_Mo_134 rfl (by (repeat (first | apply va_up_t (h := by decide) | apply mo_w_t (h5 := by decide) (h7 := by decide) (h8 := by decide) | assumption | exact va_up_s | exact mo_w_5 | exact mo_w_7 | exact mo_w_8)); all_goals rfl) ?_
      refine em_putI (i := 8) hG d_Mo_next_89 fo_Mo_143 rfl rfl (by decide) mv_8 (fun G hG => ?_)
      refine ev_aload_n d_Mo_next_92 rfl rfl ?_
      refine em_getI (i := 8) hG d_Mo_next_93 fo_Mo_143 rfl (by (repeat (first | apply va_up_t (h := by decide) | apply mo_w_t (h5 := by decide) (h7 := by decide) (h8 := by decide) | assumption | exact va_up_s | exact mo_w_5 | exact mo_w_7 | exact mo_w_8)); all_goals rfl) ?_
      refine ev_aload_n d_Mo_next_96 rfl rfl ?_
      refine em_getI (i := 7) hG d_Mo_next_97 fo_Mo_140 rfl (by (repeat (first | apply va_up_t (h := by decide) | apply mo_w_t (h5 := by decide) (h7 := by decide) (h8 := by decide) | assumption | exact va_up_s | exact mo_w_5 | exact mo_w_7 | exact mo_w_8)); all_goals rfl) ?_
      refine ev_icmp_le 107 d_Mo_next_100 (by decide) (fun hc => ?_) (fun hc => ?_)
      · have : ¬ (w_at sg e p).1 < (w_at sg e p).2 := by rw [hs]; exact fun z => absurd hc (nI_ge z (by omega))
        refine ev_iconst (v := 0) d_Mo_next_107 (by decide) ?_
        exact ev_zret d_Mo_next_108 rfl rfl (⟨by rw [cI_f this], by rw [hs]; exact hG⟩)
      · have : (w_at sg e p).1 < (w_at sg e p).2 := by rw [hs]; exact Nat.not_le.mp (fun z => hc (nI_le z (by omega)))
        refine ev_iconst (v := 1) d_Mo_next_103 (by decide) ?_
        refine ev_goto 108 d_Mo_next_104 (by decide) ?_
        exact ev_zret d_Mo_next_108 rfl rfl (⟨by rw [cI_t this], by rw [hs]; exact hG⟩)
    intro m
    induction m with
    | zero =>
      intro j G hj hfj hs hG
      refine ev_aload_n d_Mo_next_46 rfl rfl ?_
      refine em_getI (i := 5) hG d_Mo_next_47 fo_Mo_134 rfl (by (repeat (first | apply va_up_t (h := by decide) | apply mo_w_t (h5 := by decide) (h7 := by decide) (h8 := by decide) | assumption | exact va_up_s | exact mo_w_5 | exact mo_w_7 | exact mo_w_8)); all_goals rfl) ?_
      refine ev_aload_n d_Mo_next_50 rfl rfl ?_
      refine em_getI (i := 6) hG d_Mo_next_51 fo_Mo_137 rfl (by (repeat (first | apply va_up_t (h := by decide) | apply mo_w_t (h5 := by decide) (h7 := by decide) (h8 := by decide) | assumption | exact va_up_s | exact mo_w_5 | exact mo_w_7 | exact mo_w_8)); all_goals rfl) ?_
      refine ev_icmp_ge 84 d_Mo_next_54 (by decide) (fun hc => ?_) (fun hc => ?_)
      · exact fin j G (by omega) hfj (by rw [hs, w_en_0 (by omega)]) hG
      · exact absurd (nI_le (by omega) (by omega)) hc
    | succ m ih =>
      intro j G hj hfj hs hG
      have hkj := (hk j (by omega)).1
      have hkb := (hk j (by omega)).2
      refine ev_aload_n d_Mo_next_46 rfl rfl ?_
      refine em_getI (i := 5) hG d_Mo_next_47 fo_Mo_134 rfl (by (repeat (first | apply va_up_t (h := by decide) | apply mo_w_t (h5 := by decide) (h7 := by decide) (h8 := by decide) | assumption | exact va_up_s | exact mo_w_5 | exact mo_w_7 | exact mo_w_8)); all_goals rfl) ?_
      refine ev_aload_n d_Mo_next_50 rfl rfl ?_
      refine em_getI (i := 6) hG d_Mo_next_51 fo_Mo_137 rfl (by (repeat (first | apply va_up_t (h := by decide) | apply mo_w_t (h5 := by decide) (h7 := by decide) (h8 := by decide) | assumption | exact va_up_s | exact mo_w_5 | exact mo_w_7 | exact mo_w_8)); all_goals rfl) ?_
      refine ev_icmp_ge 84 d_Mo_next_54 (by decide) (fun hc => ?_) (fun hc => ?_)
      · exact absurd hc (nI_ge (by omega) (by omega))
      · refine ev_aload_n d_Mo_next_57 rfl rfl ?_
        refine em_getA (i := 4) hG d_Mo_next_58 fo_Mo_13 rfl ?_
        refine ev_aload_n d_Mo_next_61 rfl rfl ?_
        refine em_getI (i := 5) hG d_Mo_next_62 fo_Mo_134 rfl (by (repeat (first | apply va_up_t (h := by decide) | apply mo_w_t (h5 := by decide) (h7 := by decide) (h8 := by decide) | assumption | exact va_up_s | exact mo_w_5 | exact mo_w_7 | exact mo_w_8)); all_goals rfl) ?_
        refine em_iald (i := 4) (N := 4000) hG d_Mo_next_65 rfl rfl (by decide) (by omega) (by (repeat (first | apply va_up_mt (h := by decide) | apply va_up_ms | apply pk_ut (h := by omega) | apply pk_uLt (h := by omega) | assumption | exact pk_us | exact pk_uLs)); all_goals rfl) ?_
        refine ev_bipush (v := 32) d_Mo_next_66 (by decide) ?_
        refine ev_icmp_eq 84 d_Mo_next_68 (by decide) (fun hd => ?_) (fun hd => ?_)
        · have h32 : sg j = 32 := (nI_eq (by omega) (b := 32) (by omega)).mp hd
          exact fin j G (by omega) hfj (by rw [hs, w_en_s (by omega) h32]) hG
        · have h32 : ¬ sg j = 32 := fun q => hd (by rw [q]; rfl)
          refine ev_aload_n d_Mo_next_71 rfl rfl ?_
          refine ev_dup d_Mo_next_72 rfl ?_
          refine em_getI (i := 5) hG d_Mo_next_73 fo_Mo_134 rfl (by (repeat (first | apply va_up_t (h := by decide) | apply mo_w_t (h5 := by decide) (h7 := by decide) (h8 := by decide) | assumption | exact va_up_s | exact mo_w_5 | exact mo_w_7 | exact mo_w_8)); all_goals rfl) ?_
          refine ev_iconst (v := 1) d_Mo_next_76 (by decide) ?_
          refine ev_iadd d_Mo_next_77 ?_
          refine em_putI (i := 5) hG d_Mo_next_78 fo_Mo_134 rfl rfl (by decide) mv_5 (fun G hG => ?_)
          refine ev_goto 46 d_Mo_next_81 (by decide) ?_
          rw [nI_1, va_upc (by decide), va_up2] at hG
          exact ih (j + 1) G (by omega) (by omega) (by rw [hs, w_en_n (by omega) h32]) hG
  have loop1 : ∀ (m j : Nat) (G : pm_G), j + m = e → (w_at sg e p).1 = w_nx sg (e - j) j → mo_at G0 a A (va_up I 5 (nI j)) J M W G → ev_W l X m_Mo_next 0 0 0 (fun r G' => r = some (.int (cI ((w_at sg e p).1 < (w_at sg e p).2))) ∧ mo_at G0 a A (mo_w I (w_at sg e p).1 (w_at sg e p).2) J M W G') 0 0 0 [(0, .ref a)] [] G := by
    have fin : ∀ (j : Nat) (G : pm_G), j ≤ e → (w_at sg e p).1 = j → mo_at G0 a A (va_up I 5 (nI j)) J M W G → ev_W l X m_Mo_next 0 0 0 (fun r G' => r = some (.int (cI ((w_at sg e p).1 < (w_at sg e p).2))) ∧ mo_at G0 a A (mo_w I (w_at sg e p).1 (w_at sg e p).2) J M W G') 0 0 38 [(0, .ref a)] [] G := by
      intro j G hj hs hG
      refine ev_aload_n d_Mo_next_38 rfl rfl ?_
      refine ev_aload_n d_Mo_next_39 rfl rfl ?_
      refine em_getI (i := 5) hG d_Mo_next_40 fo_Mo_134 rfl (by (repeat (first | apply va_up_t (h := by decide) | apply mo_w_t (h5 := by decide) (h7 := by decide) (h8 := by decide) | assumption | exact va_up_s | exact mo_w_5 | exact mo_w_7 | exact mo_w_8)); all_goals rfl) ?_
      refine em_putI (i := 7) hG d_Mo_next_43 fo_Mo_140 rfl rfl (by decide) mv_7 (fun G hG => ?_)
      exact loop2 (e - j) j G (by omega) (by omega) (by rw [← hs]; rfl) (by rw [hs]; exact hG)
    intro m
    induction m with
    | zero =>
      intro j G hj hs hG
      refine ev_aload_n d_Mo_next_0 rfl rfl ?_
      refine em_getI (i := 5) hG d_Mo_next_1 fo_Mo_134 rfl (by (repeat (first | apply va_up_t (h := by decide) | apply mo_w_t (h5 := by decide) (h7 := by decide) (h8 := by decide) | assumption | exact va_up_s | exact mo_w_5 | exact mo_w_7 | exact mo_w_8)); all_goals rfl) ?_
      refine ev_aload_n d_Mo_next_4 rfl rfl ?_
      refine em_getI (i := 6) hG d_Mo_next_5 fo_Mo_137 rfl (by (repeat (first | apply va_up_t (h := by decide) | apply mo_w_t (h5 := by decide) (h7 := by decide) (h8 := by decide) | assumption | exact va_up_s | exact mo_w_5 | exact mo_w_7 | exact mo_w_8)); all_goals rfl) ?_
      refine ev_icmp_ge 38 d_Mo_next_8 (by decide) (fun hc => ?_) (fun hc => ?_)
      · exact fin j G (by omega) (by rw [hs, w_nx_0 (by omega)]) hG
      · exact absurd (nI_le (by omega) (by omega)) hc
    | succ m ih =>
      intro j G hj hs hG
      have hkj := (hk j (by omega)).1
      have hkb := (hk j (by omega)).2
      refine ev_aload_n d_Mo_next_0 rfl rfl ?_
      refine em_getI (i := 5) hG d_Mo_next_1 fo_Mo_134 rfl (by (repeat (first | apply va_up_t (h := by decide) | apply mo_w_t (h5 := by decide) (h7 := by decide) (h8 := by decide) | assumption | exact va_up_s | exact mo_w_5 | exact mo_w_7 | exact mo_w_8)); all_goals rfl) ?_
      refine ev_aload_n d_Mo_next_4 rfl rfl ?_
      refine em_getI (i := 6) hG d_Mo_next_5 fo_Mo_137 rfl (by (repeat (first | apply va_up_t (h := by decide) | apply mo_w_t (h5 := by decide) (h7 := by decide) (h8 := by decide) | assumption | exact va_up_s | exact mo_w_5 | exact mo_w_7 | exact mo_w_8)); all_goals rfl) ?_
      refine ev_icmp_ge 38 d_Mo_next_8 (by decide) (fun hc => ?_) (fun hc => ?_)
      · exact absurd hc (nI_ge (by omega) (by omega))
      · refine ev_aload_n d_Mo_next_11 rfl rfl ?_
        refine em_getA (i := 4) hG d_Mo_next_12 fo_Mo_13 rfl ?_
        refine ev_aload_n d_Mo_next_15 rfl rfl ?_
        refine em_getI (i := 5) hG d_Mo_next_16 fo_Mo_134 rfl (by (repeat (first | apply va_up_t (h := by decide) | apply mo_w_t (h5 := by decide) (h7 := by decide) (h8 := by decide) | assumption | exact va_up_s | exact mo_w_5 | exact mo_w_7 | exact mo_w_8)); all_goals rfl) ?_
        refine em_iald (i := 4) (N := 4000) hG d_Mo_next_19 rfl rfl (by decide) (by omega) (by (repeat (first | apply va_up_mt (h := by decide) | apply va_up_ms | apply pk_ut (h := by omega) | apply pk_uLt (h := by omega) | assumption | exact pk_us | exact pk_uLs)); all_goals rfl) ?_
        refine ev_bipush (v := 32) d_Mo_next_20 (by decide) ?_
        refine ev_icmp_ne 38 d_Mo_next_22 (by decide) (fun hd => ?_) (fun hd => ?_)
        · have h32 : ¬ sg j = 32 := fun q => hd (by rw [q]; rfl)
          exact fin j G (by omega) (by rw [hs, w_nx_n (by omega) h32]) hG
        · have h32 : sg j = 32 := (nI_eq (by omega) (b := 32) (by omega)).mp hd
          refine ev_aload_n d_Mo_next_25 rfl rfl ?_
          refine ev_dup d_Mo_next_26 rfl ?_
          refine em_getI (i := 5) hG d_Mo_next_27 fo_Mo_134 rfl (by (repeat (first | apply va_up_t (h := by decide) | apply mo_w_t (h5 := by decide) (h7 := by decide) (h8 := by decide) | assumption | exact va_up_s | exact mo_w_5 | exact mo_w_7 | exact mo_w_8)); all_goals rfl) ?_
          refine ev_iconst (v := 1) d_Mo_next_30 (by decide) ?_
          refine ev_iadd d_Mo_next_31 ?_
          refine em_putI (i := 5) hG d_Mo_next_32 fo_Mo_134 rfl rfl (by decide) mv_5 (fun G hG => ?_)
          refine ev_goto 0 d_Mo_next_35 (by decide) ?_
          rw [nI_1, va_up2] at hG
          exact ih (j + 1) G (by omega) (by rw [hs, w_nx_s (by omega) h32]) hG
  refine loop1 (e - p) p G (by omega) rfl ?_
  rw [← h5, va_up0]
  exact hG
theorem c_Mo_through (hG : mo_at G0 a A I J M W G) (hk : mk_ok sg M e) (h5 : I 5 = nI p) (h6 : I 6 = nI e) (hp : p ≤ e) (he : e ≤ 4000) : cn_M l X m_Mo_through 1 0 0 [.ref a] G (fun r G' => r = some (.int (cI (¬ (w_at sg e p).1 < (w_at sg e p).2))) ∧ mo_at G0 a A (mo_w I (w_at sg e p).1 (w_at sg e p).2) J M W G') := by
  refine cn_in rfl (Nat.le_of_ble_eq_true rfl) ?_
  refine ev_aload_n d_Mo_through_0 rfl rfl ?_
  refine ev_callV0 d_Mo_through_1 ck_Mo_next ml_Mo_146 im_Mo_next se_Mo_next rfl hG.1 (c_Mo_next hG hk h5 h6 hp he) (by omega) (Nat.le_of_ble_eq_true rfl) (by omega) (by omega) ?_
  rintro _ G ⟨rfl, hG⟩
  refine ev_if_ne 11 d_Mo_through_4 (by decide) (fun hb => ?_) (fun hb => ?_)
  · refine ev_iconst (v := 0) d_Mo_through_11 (by decide) ?_
    exact ev_zret d_Mo_through_12 rfl rfl (⟨by rw [cI_f (fun z => z (cI_1 hb))], hG⟩)
  · refine ev_iconst (v := 1) d_Mo_through_7 (by decide) ?_
    refine ev_goto 12 d_Mo_through_8 (by decide) ?_
    exact ev_zret d_Mo_through_12 rfl rfl (⟨by rw [cI_t (cI_0 hb)], hG⟩)
set_option maxHeartbeats 1000000 in
theorem c_Mo_isName (hG : mo_at G0 a A I J M W G) (hk : mk_ok sg M n) (h7 : I 7 = nI b) (h8 : I 8 = nI f) (hbf : b ≤ f) (hf : f ≤ n) (hn : n ≤ 4000) : cn_M l X m_Mo_isName 0 0 0 [.ref a] G (fun r G' => r = some (.int (cI (is_nm sg b f))) ∧ G = G') := by
  refine cn_in rfl (Nat.le_of_ble_eq_true rfl) ?_
  have loop : ∀ (m j : Nat), j + m = f → b ≤ j → ev_W l X m_Mo_isName 0 0 0 (fun r G' => r = some (.int (cI (is_nm sg b f))) ∧ G = G') 0 0 36 [(0, .ref a), (1, .int (cI (b < f ∧ f - b ≤ 8 ∧ ∀ i, b ≤ i → i < j → 97 ≤ sg i ∧ sg i ≤ 122))), (2, .int (nI j))] [] G := by
    intro m
    induction m with
    | zero =>
      intro j hj hbj
      refine ev_iload_n d_Mo_isName_36 rfl rfl ?_
      refine ev_aload_n d_Mo_isName_37 rfl rfl ?_
      refine em_getI (i := 8) hG d_Mo_isName_38 fo_Mo_143 rfl (by (repeat (first | apply va_up_t (h := by decide) | apply mo_w_t (h5 := by decide) (h7 := by decide) (h8 := by decide) | assumption | exact va_up_s | exact mo_w_5 | exact mo_w_7 | exact mo_w_8)); all_goals rfl) ?_
      refine ev_icmp_ge 82 d_Mo_isName_41 (by decide) (fun hc => ?_) (fun hc => ?_)
      · refine ev_iload_n d_Mo_isName_82 rfl rfl ?_
        rw [show j = f by omega]
        exact ev_zret d_Mo_isName_83 rfl cI_n ⟨rfl, rfl⟩
      · exact absurd (nI_le (by omega) (by omega)) hc
    | succ m ih =>
      intro j hj hbj
      have hkj := (hk j (by omega)).1
      have hkb := (hk j (by omega)).2
      have nx : ∀ (g : Int32), g = cI (b < f ∧ f - b ≤ 8 ∧ ∀ i, b ≤ i → i < j + 1 → 97 ≤ sg i ∧ sg i ≤ 122) → ev_W l X m_Mo_isName 0 0 0 (fun r G' => r = some (.int (cI (is_nm sg b f))) ∧ G = G') 0 0 75 [(0, .ref a), (1, .int (cI (b < f ∧ f - b ≤ 8 ∧ ∀ i, b ≤ i → i < j → 97 ≤ sg i ∧ sg i ≤ 122))), (2, .int (nI j))] [.int g] G := by
        intro g hg
        subst hg
        refine ev_istore_n d_Mo_isName_75 rfl (by decide) ?_
        refine ev_iinc d_Mo_isName_76 rfl (by first | exact nI_1 _ | rfl) (by decide) ?_
        refine ev_goto 36 d_Mo_isName_79 (by decide) ?_
        exact ih (j + 1) (by omega) (by omega)
      refine ev_iload_n d_Mo_isName_36 rfl rfl ?_
      refine ev_aload_n d_Mo_isName_37 rfl rfl ?_
      refine em_getI (i := 8) hG d_Mo_isName_38 fo_Mo_143 rfl (by (repeat (first | apply va_up_t (h := by decide) | apply mo_w_t (h5 := by decide) (h7 := by decide) (h8 := by decide) | assumption | exact va_up_s | exact mo_w_5 | exact mo_w_7 | exact mo_w_8)); all_goals rfl) ?_
      refine ev_icmp_ge 82 d_Mo_isName_41 (by decide) (fun hc => ?_) (fun hc => ?_)
      · exact absurd hc (nI_ge (by omega) (by omega))
      · refine ev_iload_n d_Mo_isName_44 rfl rfl ?_
        refine ev_if_eq 74 d_Mo_isName_45 (by decide) (fun hd => ?_) (fun hd => ?_)
        · have := cI_0 hd
          refine ev_iconst (v := 0) d_Mo_isName_74 (by decide) ?_
          exact nx _ (by rw [cI_f (fun z => this ⟨z.1, z.2.1, fun i i1 i2 => z.2.2 i i1 (by omega)⟩)])
        · have hd := cI_1 hd
          refine ev_aload_n d_Mo_isName_48 rfl rfl ?_
          refine em_getA (i := 4) hG d_Mo_isName_49 fo_Mo_13 rfl ?_
          refine ev_iload_n d_Mo_isName_52 rfl rfl ?_
          refine em_iald (i := 4) (N := 4000) hG d_Mo_isName_53 rfl rfl (by decide) (by omega) (by (repeat (first | apply va_up_mt (h := by decide) | apply va_up_ms | apply pk_ut (h := by omega) | apply pk_uLt (h := by omega) | assumption | exact pk_us | exact pk_uLs)); all_goals rfl) ?_
          refine ev_bipush (v := 97) d_Mo_isName_54 (by decide) ?_
          refine ev_icmp_lt 74 d_Mo_isName_56 (by decide) (fun h1 => ?_) (fun h1 => ?_)
          · have : sg j < 97 := (nI_ltI (by omega) (b := 97) (by omega)).mp h1
            refine ev_iconst (v := 0) d_Mo_isName_74 (by decide) ?_
            exact nx _ (by rw [cI_f (fun z => absurd (z.2.2 j hbj (by omega)).1 (by omega))])
          · have g1 : 97 ≤ sg j := Nat.not_lt.mp (fun z => h1 (nI_lt (b := 97) z (by omega)))
            refine ev_aload_n d_Mo_isName_59 rfl rfl ?_
            refine em_getA (i := 4) hG d_Mo_isName_60 fo_Mo_13 rfl ?_
            refine ev_iload_n d_Mo_isName_63 rfl rfl ?_
            refine em_iald (i := 4) (N := 4000) hG d_Mo_isName_64 rfl rfl (by decide) (by omega) (by (repeat (first | apply va_up_mt (h := by decide) | apply va_up_ms | apply pk_ut (h := by omega) | apply pk_uLt (h := by omega) | assumption | exact pk_us | exact pk_uLs)); all_goals rfl) ?_
            refine ev_bipush (v := 122) d_Mo_isName_65 (by decide) ?_
            refine ev_icmp_gt 74 d_Mo_isName_67 (by decide) (fun h2 => ?_) (fun h2 => ?_)
            · have : 122 < sg j := Nat.not_le.mp (fun z => absurd h2 (nI_nlt (b := sg j) (a := 122) z (by omega)))
              refine ev_iconst (v := 0) d_Mo_isName_74 (by decide) ?_
              exact nx _ (by rw [cI_f (fun z => absurd (z.2.2 j hbj (by omega)).2 (by omega))])
            · have g2 : sg j ≤ 122 := Nat.not_lt.mp (fun z => h2 (nI_lt (a := 122) z (by omega)))
              refine ev_iconst (v := 1) d_Mo_isName_70 (by decide) ?_
              refine ev_goto 75 d_Mo_isName_71 (by decide) ?_
              have nl : ∀ i, b ≤ i → i < j + 1 → 97 ≤ sg i ∧ sg i ≤ 122 := by
                intro i i1 i2
                by_cases q : i = j
                · rw [q]; exact ⟨g1, g2⟩
                · exact hd.2.2 i i1 (by omega)
              exact nx _ (by rw [cI_t ⟨hd.1, hd.2.1, nl⟩])
  have go : ∀ (g : Int32), g = cI (b < f ∧ f - b ≤ 8 ∧ ∀ i, b ≤ i → i < b → 97 ≤ sg i ∧ sg i ≤ 122) → ev_W l X m_Mo_isName 0 0 0 (fun r G' => r = some (.int (cI (is_nm sg b f))) ∧ G = G') 0 0 30 [(0, .ref a)] [.int g] G := by
    intro g hg
    subst hg
    refine ev_istore_n d_Mo_isName_30 rfl (by decide) ?_
    refine ev_aload_n d_Mo_isName_31 rfl rfl ?_
    refine em_getI (i := 7) hG d_Mo_isName_32 fo_Mo_140 rfl (by (repeat (first | apply va_up_t (h := by decide) | apply mo_w_t (h5 := by decide) (h7 := by decide) (h8 := by decide) | assumption | exact va_up_s | exact mo_w_5 | exact mo_w_7 | exact mo_w_8)); all_goals rfl) ?_
    refine ev_istore_n d_Mo_isName_35 rfl (by decide) ?_
    exact loop (f - b) b (by omega) (Nat.le_refl _)
  refine ev_aload_n d_Mo_isName_0 rfl rfl ?_
  refine em_getI (i := 8) hG d_Mo_isName_1 fo_Mo_143 rfl (by (repeat (first | apply va_up_t (h := by decide) | apply mo_w_t (h5 := by decide) (h7 := by decide) (h8 := by decide) | assumption | exact va_up_s | exact mo_w_5 | exact mo_w_7 | exact mo_w_8)); all_goals rfl) ?_
  refine ev_aload_n d_Mo_isName_4 rfl rfl ?_
  refine em_getI (i := 7) hG d_Mo_isName_5 fo_Mo_140 rfl (by (repeat (first | apply va_up_t (h := by decide) | apply mo_w_t (h5 := by decide) (h7 := by decide) (h8 := by decide) | assumption | exact va_up_s | exact mo_w_5 | exact mo_w_7 | exact mo_w_8)); all_goals rfl) ?_
  refine ev_icmp_le 29 d_Mo_isName_8 (by decide) (fun hc => ?_) (fun hc => ?_)
  · have : ¬ b < f := fun z => absurd hc (nI_ge z (by omega))
    refine ev_iconst (v := 0) d_Mo_isName_29 (by decide) ?_
    exact go _ (by rw [cI_f (fun z => this z.1)])
  · have h1 : b < f := Nat.not_le.mp (fun z => hc (nI_le z (by omega)))
    refine ev_aload_n d_Mo_isName_11 rfl rfl ?_
    refine em_getI (i := 8) hG d_Mo_isName_12 fo_Mo_143 rfl (by (repeat (first | apply va_up_t (h := by decide) | apply mo_w_t (h5 := by decide) (h7 := by decide) (h8 := by decide) | assumption | exact va_up_s | exact mo_w_5 | exact mo_w_7 | exact mo_w_8)); all_goals rfl) ?_
    refine ev_aload_n d_Mo_isName_15 rfl rfl ?_
    refine em_getI (i := 7) hG d_Mo_isName_16 fo_Mo_140 rfl (by (repeat (first | apply va_up_t (h := by decide) | apply mo_w_t (h5 := by decide) (h7 := by decide) (h8 := by decide) | assumption | exact va_up_s | exact mo_w_5 | exact mo_w_7 | exact mo_w_8)); all_goals rfl) ?_
    refine ev_isub d_Mo_isName_19 ?_
    rw [pk_sub hbf]
    refine ev_bipush (v := 8) d_Mo_isName_20 (by decide) ?_
    refine ev_icmp_gt 29 d_Mo_isName_22 (by decide) (fun hd => ?_) (fun hd => ?_)
    · have : ¬ f - b ≤ 8 := fun z => absurd hd (nI_nlt (b := f - b) (a := 8) z (by omega))
      refine ev_iconst (v := 0) d_Mo_isName_29 (by decide) ?_
      exact go _ (by rw [cI_f (fun z => this z.2.1)])
    · have h2 : f - b ≤ 8 := Nat.not_lt.mp (fun z => hd (nI_lt (a := 8) z (by omega)))
      refine ev_iconst (v := 1) d_Mo_isName_25 (by decide) ?_
      refine ev_goto 30 d_Mo_isName_26 (by decide) ?_
      exact go _ (by rw [cI_t ⟨h1, h2, fun i i1 i2 => by omega⟩])
/-- the slices p .. q and b .. f bear the same signs -/
def sl_eq (sg : Nat → Nat) (p q b f : Nat) : Prop := q - p = f - b ∧ ∀ k, k < f - b → sg (p + k) = sg (b + k)
set_option maxHeartbeats 1000000 in
theorem c_Mo_same {q : Nat} (hG : mo_at G0 a A I J M W G) (hk : mk_ok sg M n) (h7 : I 7 = nI b) (h8 : I 8 = nI f) (hbf : b ≤ f) (hf : f ≤ n) (hpq : p ≤ q) (hq : q ≤ n) (hn : n ≤ 4000) : cn_M l X m_Mo_same 0 0 0 [.ref a, .int (nI p), .int (nI q)] G (fun r G' => r = some (.int (cI (sl_eq sg p q b f))) ∧ G = G') := by
  refine cn_in rfl (Nat.le_of_ble_eq_true rfl) ?_
  have out : ∀ (x : Int32) (j : Nat), x = cI (sl_eq sg p q b f) → ev_W l X m_Mo_same 0 0 0 (fun r G' => r = some (.int (cI (sl_eq sg p q b f))) ∧ G = G') 0 0 78 [(0, .ref a), (1, .int (nI p)), (2, .int (nI q)), (3, .int x), (4, .int (nI j))] [] G := by
    intro x j hx
    subst hx
    refine ev_iload_n d_Mo_same_78 rfl rfl ?_
    exact ev_zret d_Mo_same_79 rfl cI_n ⟨rfl, rfl⟩
  have head : ∀ (j : Nat) (x : Int32), j ≤ f - b → x = 0 → ¬ sl_eq sg p q b f → ev_W l X m_Mo_same 0 0 0 (fun r G' => r = some (.int (cI (sl_eq sg p q b f))) ∧ G = G') 0 0 24 [(0, .ref a), (1, .int (nI p)), (2, .int (nI q)), (3, .int x), (4, .int (nI j))] [] G := by
    intro j x hj hx hs
    subst hx
    refine ev_iload d_Mo_same_24 rfl ?_
    refine ev_aload_n d_Mo_same_26 rfl rfl ?_
    refine em_getI (i := 8) hG d_Mo_same_27 fo_Mo_143 rfl (by (repeat (first | apply va_up_t (h := by decide) | apply mo_w_t (h5 := by decide) (h7 := by decide) (h8 := by decide) | assumption | exact va_up_s | exact mo_w_5 | exact mo_w_7 | exact mo_w_8)); all_goals rfl) ?_
    refine ev_aload_n d_Mo_same_30 rfl rfl ?_
    refine em_getI (i := 7) hG d_Mo_same_31 fo_Mo_140 rfl (by (repeat (first | apply va_up_t (h := by decide) | apply mo_w_t (h5 := by decide) (h7 := by decide) (h8 := by decide) | assumption | exact va_up_s | exact mo_w_5 | exact mo_w_7 | exact mo_w_8)); all_goals rfl) ?_
    refine ev_isub d_Mo_same_34 ?_
    rw [pk_sub hbf]
    refine ev_icmp_ge 78 d_Mo_same_35 (by decide) (fun hc => ?_) (fun hc => ?_)
    · exact out 0 j (by rw [cI_f hs])
    · refine ev_iload_n d_Mo_same_38 rfl rfl ?_
      refine ev_if_eq 78 d_Mo_same_39 (by decide) (fun hd => ?_) (fun hd => ?_)
      · exact out 0 j (by rw [cI_f hs])
      · exact absurd rfl hd
  have loop : ∀ (m j : Nat), j + m = f - b → q - p = f - b → (∀ k, k < j → sg (p + k) = sg (b + k)) → ev_W l X m_Mo_same 0 0 0 (fun r G' => r = some (.int (cI (sl_eq sg p q b f))) ∧ G = G') 0 0 24 [(0, .ref a), (1, .int (nI p)), (2, .int (nI q)), (3, .int 1), (4, .int (nI j))] [] G := by
    intro m
    induction m with
    | zero =>
      intro j hj hl hs
      refine ev_iload d_Mo_same_24 rfl ?_
      refine ev_aload_n d_Mo_same_26 rfl rfl ?_
      refine em_getI (i := 8) hG d_Mo_same_27 fo_Mo_143 rfl (by (repeat (first | apply va_up_t (h := by decide) | apply mo_w_t (h5 := by decide) (h7 := by decide) (h8 := by decide) | assumption | exact va_up_s | exact mo_w_5 | exact mo_w_7 | exact mo_w_8)); all_goals rfl) ?_
      refine ev_aload_n d_Mo_same_30 rfl rfl ?_
      refine em_getI (i := 7) hG d_Mo_same_31 fo_Mo_140 rfl (by (repeat (first | apply va_up_t (h := by decide) | apply mo_w_t (h5 := by decide) (h7 := by decide) (h8 := by decide) | assumption | exact va_up_s | exact mo_w_5 | exact mo_w_7 | exact mo_w_8)); all_goals rfl) ?_
      refine ev_isub d_Mo_same_34 ?_
      rw [pk_sub hbf]
      refine ev_icmp_ge 78 d_Mo_same_35 (by decide) (fun hc => ?_) (fun hc => ?_)
      · exact out 1 j (by rw [cI_t ⟨hl, fun k hk => hs k (by omega)⟩])
      · exact absurd (nI_le (by omega) (by omega)) hc
    | succ m ih =>
      intro j hj hl hs
      have hk1 := (hk (p + j) (by omega)).1
      have hk2 := (hk (b + j) (by omega)).1
      have hb1 := (hk (p + j) (by omega)).2
      have hb2 := (hk (b + j) (by omega)).2
      refine ev_iload d_Mo_same_24 rfl ?_
      refine ev_aload_n d_Mo_same_26 rfl rfl ?_
      refine em_getI (i := 8) hG d_Mo_same_27 fo_Mo_143 rfl (by (repeat (first | apply va_up_t (h := by decide) | apply mo_w_t (h5 := by decide) (h7 := by decide) (h8 := by decide) | assumption | exact va_up_s | exact mo_w_5 | exact mo_w_7 | exact mo_w_8)); all_goals rfl) ?_
      refine ev_aload_n d_Mo_same_30 rfl rfl ?_
      refine em_getI (i := 7) hG d_Mo_same_31 fo_Mo_140 rfl (by (repeat (first | apply va_up_t (h := by decide) | apply mo_w_t (h5 := by decide) (h7 := by decide) (h8 := by decide) | assumption | exact va_up_s | exact mo_w_5 | exact mo_w_7 | exact mo_w_8)); all_goals rfl) ?_
      refine ev_isub d_Mo_same_34 ?_
      rw [pk_sub hbf]
      refine ev_icmp_ge 78 d_Mo_same_35 (by decide) (fun hc => ?_) (fun hc => ?_)
      · exact absurd hc (nI_ge (by omega) (by omega))
      · refine ev_iload_n d_Mo_same_38 rfl rfl ?_
        refine ev_if_eq 78 d_Mo_same_39 (by decide) (fun z => absurd z (by decide)) (fun _ => ?_)
        refine ev_aload_n d_Mo_same_42 rfl rfl ?_
        refine em_getA (i := 4) hG d_Mo_same_43 fo_Mo_13 rfl ?_
        refine ev_iload_n d_Mo_same_46 rfl rfl ?_
        refine ev_iload d_Mo_same_47 rfl ?_
        refine ev_iadd d_Mo_same_49 ?_
        rw [nI_add]
        refine em_iald (i := 4) (N := 4000) hG d_Mo_same_50 rfl rfl (by decide) (by omega) (by (repeat (first | apply va_up_mt (h := by decide) | apply va_up_ms | apply pk_ut (h := by omega) | apply pk_uLt (h := by omega) | assumption | exact pk_us | exact pk_uLs)); all_goals rfl) ?_
        refine ev_aload_n d_Mo_same_51 rfl rfl ?_
        refine em_getA (i := 4) hG d_Mo_same_52 fo_Mo_13 rfl ?_
        refine ev_aload_n d_Mo_same_55 rfl rfl ?_
        refine em_getI (i := 7) hG d_Mo_same_56 fo_Mo_140 rfl (by (repeat (first | apply va_up_t (h := by decide) | apply mo_w_t (h5 := by decide) (h7 := by decide) (h8 := by decide) | assumption | exact va_up_s | exact mo_w_5 | exact mo_w_7 | exact mo_w_8)); all_goals rfl) ?_
        refine ev_iload d_Mo_same_59 rfl ?_
        refine ev_iadd d_Mo_same_61 ?_
        rw [nI_add]
        refine em_iald (i := 4) (N := 4000) hG d_Mo_same_62 rfl rfl (by decide) (by omega) (by (repeat (first | apply va_up_mt (h := by decide) | apply va_up_ms | apply pk_ut (h := by omega) | apply pk_uLt (h := by omega) | assumption | exact pk_us | exact pk_uLs)); all_goals rfl) ?_
        refine ev_icmp_ne 70 d_Mo_same_63 (by decide) (fun hd => ?_) (fun hd => ?_)
        · refine ev_iconst (v := 0) d_Mo_same_70 (by decide) ?_
          refine ev_istore_n d_Mo_same_71 rfl (by decide) ?_
          refine ev_iinc d_Mo_same_72 rfl (by first | exact nI_1 _ | rfl) (by decide) ?_
          refine ev_goto 24 d_Mo_same_75 (by decide) ?_
          exact head (j + 1) 0 (by omega) rfl (fun z => hd (by rw [z.2 j (by omega)]))
        · have hd := (nI_eq (by omega) (by omega)).mp hd
          refine ev_iconst (v := 1) d_Mo_same_66 (by decide) ?_
          refine ev_goto 71 d_Mo_same_67 (by decide) ?_
          refine ev_istore_n d_Mo_same_71 rfl (by decide) ?_
          refine ev_iinc d_Mo_same_72 rfl (by first | exact nI_1 _ | rfl) (by decide) ?_
          refine ev_goto 24 d_Mo_same_75 (by decide) ?_
          refine ih (j + 1) (by omega) hl (fun k hk => ?_)
          by_cases z : k = j
          · rw [z]; exact hd
          · exact hs k (by omega)
  refine ev_iload_n d_Mo_same_0 rfl rfl ?_
  refine ev_iload_n d_Mo_same_1 rfl rfl ?_
  refine ev_isub d_Mo_same_2 ?_
  rw [pk_sub hpq]
  refine ev_aload_n d_Mo_same_3 rfl rfl ?_
  refine em_getI (i := 8) hG d_Mo_same_4 fo_Mo_143 rfl (by (repeat (first | apply va_up_t (h := by decide) | apply mo_w_t (h5 := by decide) (h7 := by decide) (h8 := by decide) | assumption | exact va_up_s | exact mo_w_5 | exact mo_w_7 | exact mo_w_8)); all_goals rfl) ?_
  refine ev_aload_n d_Mo_same_7 rfl rfl ?_
  refine em_getI (i := 7) hG d_Mo_same_8 fo_Mo_140 rfl (by (repeat (first | apply va_up_t (h := by decide) | apply mo_w_t (h5 := by decide) (h7 := by decide) (h8 := by decide) | assumption | exact va_up_s | exact mo_w_5 | exact mo_w_7 | exact mo_w_8)); all_goals rfl) ?_
  refine ev_isub d_Mo_same_11 ?_
  rw [pk_sub hbf]
  refine ev_icmp_ne 19 d_Mo_same_12 (by decide) (fun hc => ?_) (fun hc => ?_)
  · refine ev_iconst (v := 0) d_Mo_same_19 (by decide) ?_
    refine ev_istore_n d_Mo_same_20 rfl (by decide) ?_
    refine ev_iconst (v := 0) d_Mo_same_21 (by decide) ?_
    refine ev_istore d_Mo_same_22 (by decide) ?_
    exact head 0 0 (by omega) rfl (fun z => hc (by rw [z.1]))
  · refine ev_iconst (v := 1) d_Mo_same_15 (by decide) ?_
    refine ev_goto 20 d_Mo_same_16 (by decide) ?_
    refine ev_istore_n d_Mo_same_20 rfl (by decide) ?_
    refine ev_iconst (v := 0) d_Mo_same_21 (by decide) ?_
    refine ev_istore d_Mo_same_22 (by decide) ?_
    exact loop (f - b) 0 (by omega) ((nI_eq (by omega) (by omega)).mp hc) (fun k hk => by omega)
end MP
