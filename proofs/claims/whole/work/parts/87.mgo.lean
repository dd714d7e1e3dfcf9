/-! THE MODEL RUNS: go, the walk over the steps -/
/-- what the model keeps of the plan while it runs -/
def mpl_ok (z : pz) (c : Nat) (M : Nat → Nat → Int32) (W : Nat → Nat → Int64) : Prop := c ≤ 2000 ∧ (∀ i, i < zSn z → ms_ok M W c i (zSD z i) (zNl z i) (zNf z i)) ∧ (∀ i, i < zSn z → bk_g (zSd z i) → M 31 i = nI (zBh z i)) ∧ (∀ i, i < zTn z → M 17 (i + 1) = nI (zFi z i) ∧ M 18 (i + 1) = bhI ((zAl z i).elim 0 (· + 1))) ∧ (0 < zTn z → M 17 (zTn z + 1) = nI (zSn z))
theorem ms_cg {c i nl : Nat} {M M' : Nat → Nat → Int32} {W W' : Nat → Nat → Int64} {g nf : Nat → Int32} (h : ms_ok M W c i g nl nf) (h1 : ∀ k, 24 ≤ k → k ≤ 32 → M' k = M k) (h2 : W' 27 = W 27) (h3 : W' 28 = W 28) (h4 : W' 35 = W 35) : ms_ok M' W' c i g nl nf := by
  unfold ms_ok
  rw [h1 24 (by decide) (by decide), h1 25 (by decide) (by decide), h1 26 (by decide) (by decide), h1 29 (by decide) (by decide), h1 30 (by decide) (by decide), h1 32 (by decide) (by decide), h2, h3, h4]
  exact h
theorem mpl_ok.fr {z : pz} {c r t : Nat} {I I' : Nat → Int32} {J J' : Nat → Int64} {M M' : Nat → Nat → Int32} {W W' : Nat → Nat → Int64} (h : mpl_ok z c M W) (f : mg_fr r t I I' J J' M M' W W') : mpl_ok z c M' W' := by
  obtain ⟨h1, h2, h3, h4, h5⟩ := h
  have fm : ∀ k, k ≠ 20 → k ≠ 21 → k ≠ 33 → k ≠ 37 → k ≠ 45 → k ≠ 46 → k ≠ 56 → k ≠ 59 → M' k = M k := f.2.2.1
  have fw : ∀ k, k ≠ 22 → k ≠ 47 → k ≠ 48 → k ≠ 57 → k ≠ 58 → W' k = W k := f.2.2.2.2.2.2.1
  refine ⟨h1, fun i hi => ms_cg (h2 i hi) (fun k k1 k2 => ?_) (fw 27 (by decide) (by decide) (by decide) (by decide) (by decide)) (fw 28 (by decide) (by decide) (by decide) (by decide) (by decide)) (fw 35 (by decide) (by decide) (by decide) (by decide) (by decide)), fun i hi hb => ?_, fun i hi => ?_, ?_⟩
  · exact fm k (by omega) (by omega) (by omega) (by omega) (by omega) (by omega) (by omega) (by omega)
  · rw [fm 31 (by decide) (by decide) (by decide) (by decide) (by decide) (by decide) (by decide) (by decide)]; exact h3 i hi hb
  · rw [fm 17 (by decide) (by decide) (by decide) (by decide) (by decide) (by decide) (by decide) (by decide), fm 18 (by decide) (by decide) (by decide) (by decide) (by decide) (by decide) (by decide) (by decide)]; exact h4 i hi
  · rw [fm 17 (by decide) (by decide) (by decide) (by decide) (by decide) (by decide) (by decide) (by decide)]; exact h5
theorem ma_at.fr {N r t : Nat} {av at' : Nat → Nat} {ax : Nat → Int32} {I I' : Nat → Int32} {J J' : Nat → Int64} {M M' : Nat → Nat → Int32} {W W' : Nat → Nat → Int64} (h : ma_at N av at' ax I M W) (f : mg_fr r t I I' J J' M M' W W') : ma_at N av at' ax I' M' W' := by
  unfold ma_at
  rw [f.1 38 (by decide) (by decide) (by decide), f.2.2.1 39 (by decide) (by decide) (by decide) (by decide) (by decide) (by decide) (by decide) (by decide), f.2.2.2.2.2.2.1 40 (by decide) (by decide) (by decide) (by decide) (by decide), f.2.2.2.2.2.2.1 41 (by decide) (by decide) (by decide) (by decide) (by decide)]
  exact h
/-- the open blocks as the model keeps them -/
def kc : List (Nat × Nat) → (Nat → Int32) → (Nat → Int32) → Prop
  | [], _, _ => True
  | (b, tu) :: K, f, g => f K.length = nI b ∧ g K.length = nI tu ∧ kc K f g
theorem kc_up {x y : Int32} : ∀ {K : List (Nat × Nat)} {f g : Nat → Int32} {k : Nat}, kc K f g → K.length ≤ k → kc K (upd f k x) (upd g k y) := by
  intro K
  induction K with
  | nil => intro f g k _ _; trivial
  | cons e K ih =>
    obtain ⟨b, tu⟩ := e
    intro f g k h hk
    rw [List.length_cons] at hk
    exact ⟨by rw [pk_un (by omega)]; exact h.1, by rw [pk_un (by omega)]; exact h.2.1, ih h.2.2 (by omega)⟩
theorem kc_up2 {y : Int32} : ∀ {K : List (Nat × Nat)} {f g : Nat → Int32} {k : Nat}, kc K f g → K.length ≤ k → kc K f (upd g k y) := by
  intro K
  induction K with
  | nil => intro f g k _ _; trivial
  | cons e K ih =>
    obtain ⟨b, tu⟩ := e
    intro f g k h hk
    rw [List.length_cons] at hk
    exact ⟨h.1, by rw [pk_un (by omega)]; exact h.2.1, ih h.2.2 (by omega)⟩
/-- places and open blocks -/
def gk (z : pz) (lv : Nat → Nat) (st en : Nat) : List (Nat × Nat) → Nat → Prop
  | [], s => st ≤ s ∧ s ≤ en
  | (b, tu) :: K, s => b < s ∧ s ≤ zBh z b ∧ b < zSn z ∧ (zSd z b 0 = 6 ∨ zSd z b 0 = 7) ∧ K.length ≤ lv b ∧ tu < gs_times (zSD z) (zNl z) b ∧ gk z lv st en K (zBh z b)
section GK
variable {z : pz} {lv : Nat → Nat} {st en : Nat} {K : List (Nat × Nat)} {s : Nat}
theorem bk_67 {g : Nat → Int32} (h : g 0 = 6 ∨ g 0 = 7) : bk_g g := h.elim Or.inl (fun x => Or.inr (Or.inl x))
theorem gk_place (hn : pz_n z lv) (hen : en ≤ zSn z) (h : gk z lv st en K s) (h1 : ∀ b tu K', K = (b, tu) :: K' → s ≠ zBh z b) (h2 : K = [] → s < en) : s < zSn z ∧ K.length ≤ lv s := by
  cases K with
  | nil => exact ⟨by have := h2 rfl; omega, Nat.zero_le _⟩
  | cons e K =>
    obtain ⟨b, tu⟩ := e
    obtain ⟨g1, g2, g3, g4, g5, g6, g7⟩ := h
    have g8 := h1 b tu K rfl
    have g9 := (hn.2.1 b g3).2
    have := (hn.2.2.1 b g3 (bk_67 g4) s g1 (by omega)).2
    exact ⟨by omega, by rw [List.length_cons]; omega⟩
theorem gk_next (hn : pz_n z lv) (hse : ∀ j, st ≤ j → j < en → zBh z j ≤ en) (hs : s < zSn z) (h : gk z lv st en K s) (h1 : ∀ b tu K', K = (b, tu) :: K' → s ≠ zBh z b) (h2 : K = [] → s < en) : gk z lv st en K (zBh z s) := by
  have h3 := (hn.2.1 s hs).1
  cases K with
  | nil => exact ⟨by have := h.1; omega, hse s h.1 (h2 rfl)⟩
  | cons e K =>
    obtain ⟨b, tu⟩ := e
    obtain ⟨g1, g2, g3, g4, g5, g6, g7⟩ := h
    have g8 := h1 b tu K rfl
    have := (hn.2.2.1 b g3 (bk_67 g4) s g1 (by omega)).1
    exact ⟨by omega, this, g3, g4, g5, g6, g7⟩
theorem gs_times_pos (hn : pz_n z lv) (hs : s < zSn z) (hk : zSd z s 0 = 6 ∨ zSd z s 0 = 7) : 0 < gs_times (zSD z) (zNl z) s ∧ gs_times (zSD z) (zNl z) s ≤ 20 := by
  obtain ⟨k1, k2, k3, -⟩ := hn.1 s hs
  unfold gs_times
  rcases hk with y | y
  · obtain ⟨t, t1, t2, t3⟩ := k2 y
    have e1 : zSD z s 4 = nI t := t3
    rw [if_neg (show ¬ zSD z s 0 = 7 from fun w => by have : zSd z s 0 = 7 := w; rw [y] at this; exact absurd this (by decide)), e1, nI_clamp (by omega)]
    exact ⟨by omega, t2⟩
  · rw [if_pos (show zSD z s 0 = 7 from y)]
    have := k3 y
    exact ⟨by omega, by omega⟩
theorem gk_push (hn : pz_n z lv) (hse : ∀ j, st ≤ j → j < en → zBh z j ≤ en) (hs : s < zSn z) (hk : zSd z s 0 = 6 ∨ zSd z s 0 = 7) (hl : K.length ≤ lv s) (h : gk z lv st en K s) (h1 : ∀ b tu K', K = (b, tu) :: K' → s ≠ zBh z b) (h2 : K = [] → s < en) : gk z lv st en ((s, 0) :: K) (s + 1) := by
  have h3 := (hn.2.1 s hs).1
  exact ⟨by omega, by omega, hs, hk, hl, (gs_times_pos hn hs hk).1, gk_next hn hse hs h h1 h2⟩
end GK
def kg (K : List (Nat × Nat)) (q : rs_T) : Prop := ∀ e, e ∈ K → qG q e.1 = 1
theorem rs_begun_id {q : rs_T} {b : Nat} (h : qG q b = 1) : rs_begun b q = q := by
  unfold rs_begun
  rw [← h, upd0]
  rfl
def go_Q (G0 : pm_G) (a : Nat) (A : Nat → Nat) (z : pz) (r t : Nat) (I : Nat → Int32) (J : Nat → Int64) (M : Nat → Nat → Int32) (W : Nat → Nat → Int64) (cf : gs_T) (y : Option Value) (G' : pm_G) : Prop := y = none ∧ ∃ I' J' M' W', mo_at G0 a A I' J' M' W' G' ∧ mg_fr r t I I' J J' M M' W W' ∧ I' 55 = nI cf.2.2.2 ∧ cf.2.2.2 ≤ 2 ∧ ((cf.2.2.2 ≠ 2 ∧ mr_ok z r t cf.2.2.1 I' J' M' W' ∧ rq_ok cf.2.2.1) ∨ (cf.2.2.2 = 2 ∧ ∃ q0, qN q0 = 2000 ∧ cf.2.2.1 = rs_spent q0 ∧ mr_ok z r t q0 I' J' M' W' ∧ rq_ok q0))
section GO
variable {l : Launch} {X : pm_X} {G G0 : pm_G} {a : Nat} {A : Nat → Nat} {I : Nat → Int32} {J : Nat → Int64} {M : Nat → Nat → Int32} {W : Nat → Nat → Int64} {z : pz} {lv : Nat → Nat} {r t c n N st en : Nat} {q : rs_T} {kf : Nat → Nat} {vf : Nat → Int32} {av at' : Nat → Nat} {ax : Nat → Int32} {cf : gs_T}
theorem gs_fx {c : gs_T} {m : Nat} (h : gs_it en n kf vf (zSD z) (zNl z) (zNf z) (zBh z) m c = cf) (hd : gs_done en c) : cf = c := by
  rw [gs_still hd m] at h
  exact h.symm
set_option maxHeartbeats 1000000 in
theorem mo_go_end {m b tu s : Nat} {K : List (Nat × Nat)} (hz : pz_ok z) (hn : pz_n z lv) (hr : r < 8) (hpl : mpl_ok z c M W) (hen : en ≤ zSn z) {I1 : Nat → Int32} {J1 : Nat → Int64} {M1 : Nat → Nat → Int32} {W1 : Nat → Nat → Int64} {G : pm_G}
    (ih : ∀ (K : List (Nat × Nat)) (s : Nat) (q : rs_T) (I1 : Nat → Int32) (J1 : Nat → Int64) (M1 : Nat → Nat → Int32) (W1 : Nat → Nat → Int64) (G : pm_G), gs_it en n kf vf (zSD z) (zNl z) (zNf z) (zBh z) m (K, s, q, 0) = cf → gk z lv st en K s → kc K (M1 37) (M1 59) → kg K q → I1 55 = 0 → mr_ok z r t q I1 J1 M1 W1 → rq_ok q → mg_fr r t I I1 J J1 M M1 W W1 → mo_at G0 a A I1 J1 M1 W1 G → ev_W l X m_Mo_go 4 0 0 (go_Q G0 a A z r t I J M W cf) 0 0 11 [(0, .ref a), (1, .int (nI st)), (2, .int (nI en)), (3, .int (nI t)), (4, .int (nI K.length)), (5, .int (nI s))] [] G)
    (hw : gs_it en n kf vf (zSD z) (zNl z) (zNf z) (zBh z) (m + 1) ((b, tu) :: K, s, q, 0) = cf) (hs : s = zBh z b) (hk : gk z lv st en ((b, tu) :: K) s) (hc : kc ((b, tu) :: K) (M1 37) (M1 59)) (hkg : kg ((b, tu) :: K) q) (h55 : I1 55 = 0) (hm : mr_ok z r t q I1 J1 M1 W1) (hq : rq_ok q) (hf : mg_fr r t I I1 J J1 M M1 W W1) (hG : mo_at G0 a A I1 J1 M1 W1 G) : ev_W l X m_Mo_go 4 0 0 (go_Q G0 a A z r t I J M W cf) 0 0 53 [(0, .ref a), (1, .int (nI st)), (2, .int (nI en)), (3, .int (nI t)), (4, .int (nI (K.length + 1))), (5, .int (nI s))] [] G := by
  obtain ⟨g1, g2, g3, g4, g5, g6, g7⟩ := id hk
  obtain ⟨c1, c2, c3⟩ := hc
  obtain ⟨a1, a2, a3, a4, a5, a6, a7, a8, a9, a10, a11, a12, a13⟩ := id hm
  have snb := hz.1.sn
  have hp1 := hpl.fr hf
  obtain ⟨x24, x25, x26, x27, x28, x29, x30, x32⟩ := hp1.2.1 b g3
  obtain ⟨k1, k2, k3, k4, k5, k6, k7, k8, k9⟩ := hn.1 b g3
  have lv7 : lv b ≤ 7 := (hn.2.2.2.1 b g3).resolve_right (fun y => y (bk_67 g4))
  have tp := gs_times_pos hn g3 g4
  have hT31 : qT q < 2 ^ 25 := by have := hq.2.1; have := hq.1; omega
  have h30 : M1 30 b = nI (gs_times (zSD z) (zNl z) b) := by
    rcases g4 with y | y
    · obtain ⟨tt, t1, t2, t3⟩ := k2 y
      have e1 : zSD z b 4 = nI tt := t3
      rw [x30 y, e1]
      unfold gs_times
      rw [if_neg (show ¬ zSD z b 0 = 7 from fun w => by have : zSd z b 0 = 7 := w; rw [y] at this; exact absurd this (by decide)), e1, nI_clamp (by omega)]
    · rw [(x32 y).1]
      unfold gs_times
      rw [if_pos (show zSD z b 0 = 7 from y)]
  have hg : gs en n kf vf (zSD z) (zNl z) (zNf z) (zBh z) ((b, tu) :: K, s, q, 0) = gs_end (zSD z) (zNl z) (zNf z) b tu K s q := by rw [hs]; exact gs_fin
  replace hw : gs_it en n kf vf (zSD z) (zNl z) (zNf z) (zBh z) m (gs_end (zSD z) (zNl z) (zNf z) b tu K s q) = cf := by rw [← hg]; exact hw
  refine ev_aload_n d_Mo_go_53 rfl rfl ?_
  refine em_getA (i := 37) hG d_Mo_go_54 fo_Mo_81 rfl ?_
  refine ev_iload d_Mo_go_57 rfl ?_
  refine ev_iconst (v := 1) d_Mo_go_59 (by decide) ?_
  refine ev_isub d_Mo_go_60 ?_
  rw [nI_pred]
  refine em_iald (i := 37) (N := 12) hG d_Mo_go_61 rfl rfl (by decide) (by omega) (by (repeat (first | apply va_up_mt (h := by decide) | apply va_up_ms | apply pk_ut (h := by omega) | apply pk_uLt (h := by omega) | exact pk_us | exact pk_uLs | assumption)); all_goals rfl) ?_
  refine ev_istore d_Mo_go_62 (by decide) ?_
  refine ev_aload_n d_Mo_go_64 rfl rfl ?_
  refine em_getA (i := 59) hG d_Mo_go_65 fo_Mo_124 rfl ?_
  refine ev_iload d_Mo_go_68 rfl ?_
  refine ev_iconst (v := 1) d_Mo_go_70 (by decide) ?_
  refine ev_isub d_Mo_go_71 ?_
  rw [nI_pred]
  first | refine ev_dup2l d_Mo_go_72 rfl ?_ | refine ev_dup2 d_Mo_go_72 rfl rfl ?_
  refine em_iald (i := 59) (N := 12) hG d_Mo_go_73 rfl rfl (by decide) (by omega) (by (repeat (first | apply va_up_mt (h := by decide) | apply va_up_ms | apply pk_ut (h := by omega) | apply pk_uLt (h := by omega) | exact pk_us | exact pk_uLs | assumption)); all_goals rfl) ?_
  refine ev_iconst (v := 1) d_Mo_go_74 (by decide) ?_
  refine ev_iadd d_Mo_go_75 ?_
  rw [nI_1]
  refine em_iast (i := 59) (N := 12) hG d_Mo_go_76 rfl rfl (by decide) (by omega) (fun G hG => ?_)
  refine ev_aload_n d_Mo_go_77 rfl rfl ?_
  refine em_getA (i := 59) hG d_Mo_go_78 fo_Mo_124 rfl ?_
  refine ev_iload d_Mo_go_81 rfl ?_
  refine ev_iconst (v := 1) d_Mo_go_83 (by decide) ?_
  refine ev_isub d_Mo_go_84 ?_
  rw [nI_pred]
  refine em_iald (i := 59) (N := 12) hG d_Mo_go_85 rfl rfl (by decide) (by omega) (by (repeat (first | apply va_up_mt (h := by decide) | apply va_up_ms | apply pk_ut (h := by omega) | apply pk_uLt (h := by omega) | exact pk_us | exact pk_uLs | assumption)); all_goals rfl) ?_
  refine ev_aload_n d_Mo_go_86 rfl rfl ?_
  refine em_getA (i := 30) hG d_Mo_go_87 fo_Mo_65 rfl ?_
  refine ev_iload d_Mo_go_90 rfl ?_
  refine em_iald (i := 30) (N := 1200) hG d_Mo_go_92 rfl rfl (by decide) (by omega) (by (repeat (first | apply va_up_mt (h := by decide) | apply va_up_ms | apply pk_ut (h := by omega) | apply pk_uLt (h := by omega) | exact pk_us | exact pk_uLs | assumption)); all_goals rfl) ?_
  refine ev_icmp_ne 102 d_Mo_go_93 (by decide) (fun h1 => ?_) (fun h1 => ?_)
  · have h1 : ¬ tu + 1 = gs_times (zSD z) (zNl z) b := fun y => h1 (by rw [y])
    have hfr : mg_fr r t I I1 J J1 M (va_up M1 59 (upd (M1 59) K.length (nI (tu + 1)))) W W1 := hf.m (by decide)
    have kc2 : kc ((b, tu + 1) :: K) (M1 37) (upd (M1 59) K.length (nI (tu + 1))) := ⟨c1, pk_us, kc_up2 c3 (Nat.le_refl _)⟩
    have gk2 : gk z lv st en ((b, tu + 1) :: K) (b + 1) := ⟨by omega, by have := (hn.2.1 b g3).1; omega, g3, g4, g5, by omega, g7⟩
    have kg2 : kg ((b, tu + 1) :: K) q := fun e he => by
      rcases List.mem_cons.mp he with w | w
      · rw [w]; exact hkg (b, tu) (List.mem_cons_self ..)
      · exact hkg e (List.mem_cons_of_mem _ w)
    refine ev_aload_n d_Mo_go_102 rfl rfl ?_
    refine em_getA (i := 24) hG d_Mo_go_103 fo_Mo_47 rfl ?_
    refine ev_iload d_Mo_go_106 rfl ?_
    refine em_iald (i := 24) (N := 1200) hG d_Mo_go_108 rfl rfl (by decide) (by omega) (by (repeat (first | apply va_up_mt (h := by decide) | apply va_up_ms | apply pk_ut (h := by omega) | apply pk_uLt (h := by omega) | exact pk_us | exact pk_uLs | assumption)); all_goals rfl) ?_
    refine ev_bipush (v := 6) d_Mo_go_109 (by decide) ?_
    rcases g4 with y | y
    · have e6 : mkd (zSD z b 0) = 5 := by show mkd (zSd z b 0) = 5; rw [y]; decide
      rw [e6]
      refine ev_icmp_ne 166 d_Mo_go_111 (by decide) (fun _ => ?_) (fun w => absurd w (by decide))
      have eg : gs_end (zSD z) (zNl z) (zNf z) b tu K s q = ((b, tu + 1) :: K, b + 1, q, 0) := by
        unfold gs_end
        rw [if_neg h1, if_neg (show ¬ zSD z b 0 = 7 from fun w => by have : zSd z b 0 = 7 := w; rw [y] at this; exact absurd this (by decide))]
      rw [eg] at hw
      refine ev_iload d_Mo_go_166 rfl ?_
      refine ev_iconst (v := 1) d_Mo_go_168 (by decide) ?_
      refine ev_iadd d_Mo_go_169 ?_
      rw [nI_1]
      refine ev_istore d_Mo_go_170 (by decide) ?_
      refine ev_goto 11 d_Mo_go_172 (by decide) ?_
      refine ev_keep [0, 1, 2, 3, 4, 5] ?_
      refine ih _ _ _ _ _ _ _ G hw gk2 ?_ ?_ ?_ ?_ hq ?_ hG
      · exact kc2
      · exact kg2
      · exact h55
      · exact hm
      · exact hfr
    · have e7 : mkd (zSD z b 0) = 6 := by show mkd (zSd z b 0) = 6; rw [y]; decide
      rw [e7]
      refine ev_icmp_ne 166 d_Mo_go_111 (by decide) (fun w => absurd rfl w) (fun _ => ?_)
      obtain ⟨v, v0, v20, hv⟩ := k1.1 (Or.inr (Or.inr (Or.inr (Or.inr y))))
      obtain ⟨-, fc, f1, f2, f3⟩ := x32 y
      have etm : gs_times (zSD z) (zNl z) b = zNl z b := by unfold gs_times; rw [if_pos (show zSD z b 0 = 7 from y)]
      have hcc := hp1.1
      have hcv := f3 (tu + 1) (by omega)
      have x26' : M1 26 b = nI v := x26.trans hv
      have x25' : M1 25 b = zSD z b 1 := x25
      refine ev_aload_n d_Mo_go_114 rfl rfl ?_
      refine ev_iload d_Mo_go_115 rfl ?_
      refine ev_aload_n d_Mo_go_117 rfl rfl ?_
      refine em_getA (i := 35) hG d_Mo_go_118 fo_Mo_78 rfl ?_
      refine ev_aload_n d_Mo_go_121 rfl rfl ?_
      refine em_getA (i := 32) hG d_Mo_go_122 fo_Mo_71 rfl ?_
      refine ev_iload d_Mo_go_125 rfl ?_
      refine em_iald (i := 32) (N := 1200) hG d_Mo_go_127 rfl rfl (by decide) (by omega) (by (repeat (first | apply va_up_mt (h := by decide) | apply va_up_ms | apply pk_ut (h := by omega) | apply pk_uLt (h := by omega) | exact pk_us | exact pk_uLs | assumption)); all_goals rfl) ?_
      refine ev_aload_n d_Mo_go_128 rfl rfl ?_
      refine em_getA (i := 59) hG d_Mo_go_129 fo_Mo_124 rfl ?_
      refine ev_iload d_Mo_go_132 rfl ?_
      refine ev_iconst (v := 1) d_Mo_go_134 (by decide) ?_
      refine ev_isub d_Mo_go_135 ?_
      rw [nI_pred]
      refine em_iald (i := 59) (N := 12) hG d_Mo_go_136 rfl rfl (by decide) (by omega) (by (repeat (first | apply va_up_mt (h := by decide) | apply va_up_ms | apply pk_ut (h := by omega) | apply pk_uLt (h := by omega) | exact pk_us | exact pk_uLs | assumption)); all_goals rfl) ?_
      refine ev_iadd d_Mo_go_137 ?_
      rw [nI_add]
      refine em_lald (i := 35) (N := 2000) hG d_Mo_go_138 rfl rfl (by decide) (by omega) (by (repeat (first | apply va_up_mt (h := by decide) | apply va_up_ms | apply pk_ut (h := by omega) | apply pk_uLt (h := by omega) | exact pk_us | exact pk_uLs | assumption)); all_goals rfl) ?_
      refine ev_callV2 d_Mo_go_139 ck_Mo_setting ml_Mo_269 im_Mo_setting se_Mo_setting rfl hG.1 (c_Mo_setting (N := qN q) (v := v) (li := zSD z b 1) hG a1 hr a7 hq.1 (by omega) x25' x26' v20) (by omega) (Nat.le_of_ble_eq_true rfl) (by omega) (by omega) ?_
      rintro _ G ⟨rfl, ⟨hN, hG⟩ | ⟨hN, hG⟩⟩
      · have eg : gs_end (zSD z) (zNl z) (zNf z) b tu K s q = ((b, tu + 1) :: K, b + 1, rs_spent q, 2) := by
          unfold gs_end
          rw [if_neg h1, if_pos (show zSD z b 0 = 7 from y), if_pos hN]
        rw [eg] at hw
        have ecf := gs_fx hw (fun w => absurd (show (2 : Nat) = 0 from w.1) (by decide))
        have w52 : J1 52 = lN (qT q) := a3
        refine ev_aload_n d_Mo_go_142 rfl rfl ?_
        refine ev_aload_n d_Mo_go_143 rfl rfl ?_
        refine em_getI (i := 55) hG d_Mo_go_144 fo_Mo_253 rfl (by (repeat (first | apply va_up_t (h := by decide) | apply mo_w_t (h5 := by decide) (h7 := by decide) (h8 := by decide) | exact va_up_s | exact mo_w_5 | exact mo_w_7 | exact mo_w_8 | assumption)); all_goals rfl) ?_
        refine ev_if_ne 159 d_Mo_go_147 (by decide) (fun _ => ?_) (fun w => absurd w (by decide))
        refine ev_aload_n d_Mo_go_159 rfl rfl ?_
        refine em_getJ (i := 52) hG d_Mo_go_160 fo_Mo_243 rfl (by (repeat (first | apply va_up_t (h := by decide) | apply mo_w_t (h5 := by decide) (h7 := by decide) (h8 := by decide) | exact va_up_s | exact mo_w_5 | exact mo_w_7 | exact mo_w_8 | assumption)); all_goals rfl) ?_
        refine em_putJ (i := 52) hG d_Mo_go_163 fo_Mo_243 rfl rfl (by decide) mv_52 (fun G hG => ?_)
        refine ev_iload d_Mo_go_166 rfl ?_
        refine ev_iconst (v := 1) d_Mo_go_168 (by decide) ?_
        rw [← a3, va_up0] at hG
        refine ev_iadd d_Mo_go_169 ?_
        refine ev_istore d_Mo_go_170 (by decide) ?_
        refine ev_goto 11 d_Mo_go_172 (by decide) ?_
        refine ev_aload_n d_Mo_go_11 rfl rfl ?_
        refine em_getI (i := 55) hG d_Mo_go_12 fo_Mo_253 rfl (by (repeat (first | apply va_up_t (h := by decide) | apply mo_w_t (h5 := by decide) (h7 := by decide) (h8 := by decide) | exact va_up_s | exact mo_w_5 | exact mo_w_7 | exact mo_w_8 | assumption)); all_goals rfl) ?_
        refine ev_if_ne 354 d_Mo_go_15 (by decide) (fun _ => ?_) (fun w => absurd w (by decide))
        subst ecf
        exact ev_vret d_Mo_go_354 rfl ⟨rfl, _, _, _, _, hG, (by repeat (first | exact mg_fr.rf | assumption | refine mg_fr.row ?_ | refine mg_fr.set ?_ | refine mg_fr.i ?_ (by decide) | refine mg_fr.j ?_ (by decide) | refine mg_fr.m ?_ (by decide))), (by (repeat (first | apply va_up_t (h := by decide) | apply mo_w_t (h5 := by decide) (h7 := by decide) (h8 := by decide) | exact va_up_s | exact mo_w_5 | exact mo_w_7 | exact mo_w_8 | assumption)); all_goals rfl), Nat.le_refl 2, Or.inr ⟨rfl, q, hN, rfl, mr_oc hm, hq⟩⟩
      · have eg : gs_end (zSD z) (zNl z) (zNf z) b tu K s q = ((b, tu + 1) :: K, b + 1, rs_case (zSD z b) (zNf z b (tu + 1)) q, 0) := by
          unfold gs_end
          rw [if_neg h1, if_pos (show zSD z b 0 = 7 from y), if_neg (by omega)]
        rw [eg] at hw
        have evc : (zSD z b 2).toNatClampNeg = v := by rw [show zSD z b 2 = nI v from hv, nI_clamp (by omega)]
        have hbg : rs_begun b q = q := rs_begun_id (hkg (b, tu) (List.mem_cons_self ..))
        have hmb := mr_begun (s := b) (li := zSD z b 1) hm
        rw [hbg] at hmb
        have ecs : rs_case (zSD z b) (zNf z b (tu + 1)) q = rs_tick (rs_set v (zNf z b (tu + 1)) (rs_row (zSD z b 1) (zNf z b (tu + 1)) q)) := by
          unfold rs_case
          rw [evc]
          rfl
        have hms := mr_tick (mr_set (v := v) (x := zNf z b (tu + 1)) rfl (by show qT q < 2 ^ 31; omega) (mr_row (li := zSD z b 1) (x := zNf z b (tu + 1)) rfl (by omega) hmb))
        rw [← ecs] at hms
        have w55 : va_up I1 54 (zSD z b 1) 55 = 0 := (va_up_n (by decide)).trans h55
        have hne : zNf z b (tu + 1) ≠ -1000000 := (k3 y).2.2 (tu + 1) (by omega)
        refine ev_aload_n d_Mo_go_142 rfl rfl ?_
        refine ev_aload_n d_Mo_go_143 rfl rfl ?_
        refine em_getI (i := 55) hG d_Mo_go_144 fo_Mo_253 rfl (by (repeat (first | apply va_up_t (h := by decide) | apply mo_w_t (h5 := by decide) (h7 := by decide) (h8 := by decide) | exact va_up_s | exact mo_w_5 | exact mo_w_7 | exact mo_w_8 | assumption)); all_goals rfl) ?_
        refine ev_if_ne 159 d_Mo_go_147 (by decide) (fun w => absurd rfl w) (fun _ => ?_)
        refine ev_aload_n d_Mo_go_150 rfl rfl ?_
        refine em_getJ (i := 52) hG d_Mo_go_151 fo_Mo_243 rfl (by (repeat (first | apply va_up_t (h := by decide) | apply mo_w_t (h5 := by decide) (h7 := by decide) (h8 := by decide) | exact va_up_s | exact mo_w_5 | exact mo_w_7 | exact mo_w_8 | assumption)); all_goals rfl) ?_
        refine ev_lconst (v := 1) d_Mo_go_154 (by decide) ?_
        refine ev_ladd d_Mo_go_155 ?_
        rw [lN_1]
        refine ev_goto 163 d_Mo_go_156 (by decide) ?_
        refine em_putJ (i := 52) hG d_Mo_go_163 fo_Mo_243 rfl rfl (by decide) mv_52 (fun G hG => ?_)
        refine ev_iload d_Mo_go_166 rfl ?_
        refine ev_iconst (v := 1) d_Mo_go_168 (by decide) ?_
        refine ev_iadd d_Mo_go_169 ?_
        rw [nI_1]
        refine ev_istore d_Mo_go_170 (by decide) ?_
        refine ev_goto 11 d_Mo_go_172 (by decide) ?_
        refine ev_keep [0, 1, 2, 3, 4, 5] ?_
        refine ih _ _ _ _ _ _ _ G hw gk2 ?_ ?_ ?_ ?_ (rq_case hq hN hne) ?_ hG
        · exact kc2
        · exact kg2
        · exact w55
        · exact hms
        · exact (by repeat (first | exact mg_fr.rf | assumption | refine mg_fr.row ?_ | refine mg_fr.set ?_ | refine mg_fr.i ?_ (by decide) | refine mg_fr.j ?_ (by decide) | refine mg_fr.m ?_ (by decide)))
  · have h1 : tu + 1 = gs_times (zSD z) (zNl z) b := (nI_eq (by omega) (by omega)).mp h1
    have eg : gs_end (zSD z) (zNl z) (zNf z) b tu K s q = (K, s, q, 0) := by
      unfold gs_end
      rw [if_pos h1]
    rw [eg] at hw
    refine ev_iinc d_Mo_go_96 rfl (pk_m1 _) (by decide) ?_
    refine ev_goto 11 d_Mo_go_99 (by decide) ?_
    refine ev_keep [0, 1, 2, 3, 4, 5] ?_
    refine ih _ _ _ _ _ _ _ G hw ?_ ?_ ?_ ?_ ?_ hq ?_ hG
    · rw [hs]; exact g7
    · exact kc_up2 c3 (Nat.le_refl _)
    · exact fun e he => hkg e (List.mem_cons_of_mem _ he)
    · exact h55
    · exact hm
    · exact hf.m (by decide)
set_option maxHeartbeats 2000000 in
theorem mo_go_blk {m s : Nat} {K : List (Nat × Nat)} {q2 : rs_T} (hz : pz_ok z) (hn : pz_n z lv) (hr : r < 8) (hse : ∀ j, st ≤ j → j < en → zBh z j ≤ en) {I2 : Nat → Int32} {J2 : Nat → Int64} {M2 : Nat → Nat → Int32} {W2 : Nat → Nat → Int64} {G : pm_G}
    (ih : ∀ (K : List (Nat × Nat)) (s : Nat) (q : rs_T) (I1 : Nat → Int32) (J1 : Nat → Int64) (M1 : Nat → Nat → Int32) (W1 : Nat → Nat → Int64) (G : pm_G), gs_it en n kf vf (zSD z) (zNl z) (zNf z) (zBh z) m (K, s, q, 0) = cf → gk z lv st en K s → kc K (M1 37) (M1 59) → kg K q → I1 55 = 0 → mr_ok z r t q I1 J1 M1 W1 → rq_ok q → mg_fr r t I I1 J J1 M M1 W W1 → mo_at G0 a A I1 J1 M1 W1 G → ev_W l X m_Mo_go 4 0 0 (go_Q G0 a A z r t I J M W cf) 0 0 11 [(0, .ref a), (1, .int (nI st)), (2, .int (nI en)), (3, .int (nI t)), (4, .int (nI K.length)), (5, .int (nI s))] [] G)
    (hs : s < zSn z) (hlv : K.length ≤ lv s) (hk : gk z lv st en K s) (hne : ∀ b tu K', K = (b, tu) :: K' → s ≠ zBh z b) (hnl : K = [] → s < en) (h678 : zSd z s 0 = 6 ∨ zSd z s 0 = 7 ∨ zSd z s 0 = 8) (hw6 : zSd z s 0 = 6 → gs_it en n kf vf (zSD z) (zNl z) (zNf z) (zBh z) m ((s, 0) :: K, s + 1, q2, 0) = cf) (hw7 : zSd z s 0 = 7 → gs_it en n kf vf (zSD z) (zNl z) (zNf z) (zBh z) m (if qN q2 = 2000 then ((s, 0) :: K, s + 1, rs_spent q2, 2) else ((s, 0) :: K, s + 1, rs_case (zSD z s) (zNf z s 0) q2, 0)) = cf) (hw8 : zSd z s 0 = 8 → gs_it en n kf vf (zSD z) (zNl z) (zNf z) (zBh z) m (K, zBh z s, q2, 0) = cf)
    (hp1 : mpl_ok z c M2 W2) (hc : kc K (M2 37) (M2 59)) (hkg : kg K q2) (hgs : qG q2 s = 1) (h55 : I2 55 = 0) (hm : mr_ok z r t q2 I2 J2 M2 W2) (hq : rq_ok q2) (hf : mg_fr r t I I2 J J2 M M2 W W2) (hG : mo_at G0 a A I2 J2 M2 W2 G) : ev_W l X m_Mo_go 4 0 0 (go_Q G0 a A z r t I J M W cf) 0 0 250 [(0, .ref a), (1, .int (nI st)), (2, .int (nI en)), (3, .int (nI t)), (4, .int (nI K.length)), (5, .int (nI s))] [] G := by
  have snb := hz.1.sn
  have hbk : bk_g (zSd z s) := h678
  have x31 := hp1.2.2.1 s hs hbk
  obtain ⟨x24, x25, x26, x27, x28, x29, x30, x32⟩ := hp1.2.1 s hs
  obtain ⟨k1, k2, k3, k4, k5, k6, k7, k8, k9⟩ := hn.1 s hs
  obtain ⟨a1, a2, a3, a4, a5, a6, a7, a8, a9, a10, a11, a12, a13⟩ := id hm
  have lv7 : lv s ≤ 7 := (hn.2.2.2.1 s hs).resolve_right (fun y => y hbk)
  have hT31 : qT q2 < 2 ^ 25 := by have := hq.2.1; have := hq.1; omega
  have kc2 : kc ((s, 0) :: K) (upd (M2 37) K.length (nI s)) (upd (M2 59) K.length 0) := ⟨pk_us, pk_us, kc_up hc (Nat.le_refl _)⟩
  have kg2 : ∀ {q : rs_T}, qG q = qG q2 → kg ((s, 0) :: K) q := fun hqq e he => by
    rw [hqq]
    rcases List.mem_cons.mp he with w | w
    · rw [w]; exact hgs
    · exact hkg e w
  rcases h678 with y | y | y
  · have gk2 := gk_push hn hse hs (Or.inl y) hlv hk hne hnl
    replace x24 : M2 24 s = 5 := by rw [x24]; show mkd (zSd z s 0) = 5; rw [y]; decide
    refine ev_aload_n d_Mo_go_250 rfl rfl ?_
    refine em_getA (i := 24) hG d_Mo_go_251 fo_Mo_47 rfl ?_
    refine ev_iload d_Mo_go_254 rfl ?_
    refine em_iald (i := 24) (N := 1200) hG d_Mo_go_256 rfl rfl (by decide) (by omega) (by (repeat (first | apply va_up_mt (h := by decide) | apply va_up_ms | apply pk_ut (h := by omega) | apply pk_uLt (h := by omega) | exact pk_us | exact pk_uLs | assumption)); all_goals rfl) ?_
    refine ev_bipush (v := 7) d_Mo_go_257 (by decide) ?_
    refine ev_icmp_ne 274 d_Mo_go_259 (by decide) (fun _ => ?_) (fun w => absurd w (by decide))
    refine ev_aload_n d_Mo_go_274 rfl rfl ?_
    refine em_getA (i := 37) hG d_Mo_go_275 fo_Mo_81 rfl ?_
    refine ev_iload d_Mo_go_278 rfl ?_
    refine ev_iload d_Mo_go_280 rfl ?_
    refine em_iast (i := 37) (N := 12) hG d_Mo_go_282 rfl rfl (by decide) (by omega) (fun G hG => ?_)
    refine ev_aload_n d_Mo_go_283 rfl rfl ?_
    refine em_getA (i := 59) hG d_Mo_go_284 fo_Mo_124 rfl ?_
    refine ev_iload d_Mo_go_287 rfl ?_
    refine ev_iconst (v := 0) d_Mo_go_289 (by decide) ?_
    refine em_iast (i := 59) (N := 12) hG d_Mo_go_290 rfl rfl (by decide) (by omega) (fun G hG => ?_)
    refine ev_iinc d_Mo_go_291 rfl (by first | exact nI_1 _ | rfl) (by decide) ?_
    refine ev_aload_n d_Mo_go_294 rfl rfl ?_
    refine em_getA (i := 24) hG d_Mo_go_295 fo_Mo_47 rfl ?_
    refine ev_iload d_Mo_go_298 rfl ?_
    refine em_iald (i := 24) (N := 1200) hG d_Mo_go_300 rfl rfl (by decide) (by omega) (by (repeat (first | apply va_up_mt (h := by decide) | apply va_up_ms | apply pk_ut (h := by omega) | apply pk_uLt (h := by omega) | exact pk_us | exact pk_uLs | assumption)); all_goals rfl) ?_
    refine ev_bipush (v := 6) d_Mo_go_301 (by decide) ?_
    refine ev_icmp_ne 348 d_Mo_go_303 (by decide) (fun _ => ?_) (fun w => absurd w (by decide))
    refine ev_iinc d_Mo_go_348 rfl (by first | exact nI_1 _ | rfl) (by decide) ?_
    refine ev_goto 11 d_Mo_go_351 (by decide) ?_
    refine ih ((s, 0) :: K) (s + 1) _ _ _ _ _ G (hw6 y) gk2 ?_ ?_ ?_ ?_ hq ?_ hG
    · exact kc2
    · exact kg2 rfl
    · exact h55
    · exact hm
    · exact (hf.m (by decide)).m (by decide)
  · have gk2 := gk_push hn hse hs (Or.inr y) hlv hk hne hnl
    replace x24 : M2 24 s = 6 := by rw [x24]; show mkd (zSd z s 0) = 6; rw [y]; decide
    obtain ⟨v, v0, v20, hv⟩ := k1.1 (Or.inr (Or.inr (Or.inr (Or.inr y))))
    obtain ⟨-, fc, f1, f2, f3⟩ := x32 y
    have hnl1 := (k3 y).1
    have hcc := hp1.1
    have hcv := f3 0 (by omega)
    rw [Nat.add_zero] at hcv
    have x26' : M2 26 s = nI v := x26.trans hv
    have x25' : M2 25 s = zSD z s 1 := x25
    clear x25 x26
    have hw := hw7 y
    refine ev_aload_n d_Mo_go_250 rfl rfl ?_
    refine em_getA (i := 24) hG d_Mo_go_251 fo_Mo_47 rfl ?_
    refine ev_iload d_Mo_go_254 rfl ?_
    refine em_iald (i := 24) (N := 1200) hG d_Mo_go_256 rfl rfl (by decide) (by omega) (by (repeat (first | apply va_up_mt (h := by decide) | apply va_up_ms | apply pk_ut (h := by omega) | apply pk_uLt (h := by omega) | exact pk_us | exact pk_uLs | assumption)); all_goals rfl) ?_
    refine ev_bipush (v := 7) d_Mo_go_257 (by decide) ?_
    refine ev_icmp_ne 274 d_Mo_go_259 (by decide) (fun _ => ?_) (fun w => absurd w (by decide))
    refine ev_aload_n d_Mo_go_274 rfl rfl ?_
    refine em_getA (i := 37) hG d_Mo_go_275 fo_Mo_81 rfl ?_
    refine ev_iload d_Mo_go_278 rfl ?_
    refine ev_iload d_Mo_go_280 rfl ?_
    refine em_iast (i := 37) (N := 12) hG d_Mo_go_282 rfl rfl (by decide) (by omega) (fun G hG => ?_)
    refine ev_aload_n d_Mo_go_283 rfl rfl ?_
    refine em_getA (i := 59) hG d_Mo_go_284 fo_Mo_124 rfl ?_
    refine ev_iload d_Mo_go_287 rfl ?_
    refine ev_iconst (v := 0) d_Mo_go_289 (by decide) ?_
    refine em_iast (i := 59) (N := 12) hG d_Mo_go_290 rfl rfl (by decide) (by omega) (fun G hG => ?_)
    refine ev_iinc d_Mo_go_291 rfl (by first | exact nI_1 _ | rfl) (by decide) ?_
    refine ev_aload_n d_Mo_go_294 rfl rfl ?_
    refine em_getA (i := 24) hG d_Mo_go_295 fo_Mo_47 rfl ?_
    refine ev_iload d_Mo_go_298 rfl ?_
    refine em_iald (i := 24) (N := 1200) hG d_Mo_go_300 rfl rfl (by decide) (by omega) (by (repeat (first | apply va_up_mt (h := by decide) | apply va_up_ms | apply pk_ut (h := by omega) | apply pk_uLt (h := by omega) | exact pk_us | exact pk_uLs | assumption)); all_goals rfl) ?_
    refine ev_bipush (v := 6) d_Mo_go_301 (by decide) ?_
    refine ev_icmp_ne 348 d_Mo_go_303 (by decide) (fun w => absurd rfl w) (fun _ => ?_)
    refine ev_aload_n d_Mo_go_306 rfl rfl ?_
    refine ev_iload d_Mo_go_307 rfl ?_
    refine ev_aload_n d_Mo_go_309 rfl rfl ?_
    refine em_getA (i := 35) hG d_Mo_go_310 fo_Mo_78 rfl ?_
    refine ev_aload_n d_Mo_go_313 rfl rfl ?_
    refine em_getA (i := 32) hG d_Mo_go_314 fo_Mo_71 rfl ?_
    refine ev_iload d_Mo_go_317 rfl ?_
    refine em_iald (i := 32) (N := 1200) hG d_Mo_go_319 rfl rfl (by decide) (by omega) (by (repeat (first | apply va_up_mt (h := by decide) | apply va_up_ms | apply pk_ut (h := by omega) | apply pk_uLt (h := by omega) | exact pk_us | exact pk_uLs | assumption)); all_goals rfl) ?_
    refine em_lald (i := 35) (N := 2000) hG d_Mo_go_320 rfl rfl (by decide) (by omega) (by (repeat (first | apply va_up_mt (h := by decide) | apply va_up_ms | apply pk_ut (h := by omega) | apply pk_uLt (h := by omega) | exact pk_us | exact pk_uLs | assumption)); all_goals rfl) ?_
    refine ev_callV2 d_Mo_go_321 ck_Mo_setting ml_Mo_269 im_Mo_setting se_Mo_setting rfl hG.1 (c_Mo_setting (N := qN q2) (v := v) (li := zSD z s 1) hG a1 hr (by (repeat (first | apply va_up_mt (h := by decide) | apply va_up_ms | apply pk_ut (h := by omega) | apply pk_uLt (h := by omega) | exact pk_us | exact pk_uLs | assumption)); all_goals rfl) hq.1 (by omega) (by (repeat (first | apply va_up_mt (h := by decide) | apply va_up_ms | apply pk_ut (h := by omega) | apply pk_uLt (h := by omega) | exact pk_us | exact pk_uLs | assumption)); all_goals rfl) (by (repeat (first | apply va_up_mt (h := by decide) | apply va_up_ms | apply pk_ut (h := by omega) | apply pk_uLt (h := by omega) | exact pk_us | exact pk_uLs | assumption)); all_goals rfl) v20) (by omega) (Nat.le_of_ble_eq_true rfl) (by omega) (by omega) ?_
    rintro _ G ⟨rfl, ⟨hN, hG⟩ | ⟨hN, hG⟩⟩
    · rw [if_pos hN] at hw
      have ecf := gs_fx hw (fun w => absurd (show (2 : Nat) = 0 from w.1) (by decide))
      refine ev_aload_n d_Mo_go_324 rfl rfl ?_
      refine ev_aload_n d_Mo_go_325 rfl rfl ?_
      refine em_getI (i := 55) hG d_Mo_go_326 fo_Mo_253 rfl (by (repeat (first | apply va_up_t (h := by decide) | apply mo_w_t (h5 := by decide) (h7 := by decide) (h8 := by decide) | exact va_up_s | exact mo_w_5 | exact mo_w_7 | exact mo_w_8 | assumption)); all_goals rfl) ?_
      refine ev_if_ne 341 d_Mo_go_329 (by decide) (fun _ => ?_) (fun w => absurd w (by decide))
      refine ev_aload_n d_Mo_go_341 rfl rfl ?_
      refine em_getJ (i := 52) hG d_Mo_go_342 fo_Mo_243 rfl (by (repeat (first | apply va_up_t (h := by decide) | apply mo_w_t (h5 := by decide) (h7 := by decide) (h8 := by decide) | exact va_up_s | exact mo_w_5 | exact mo_w_7 | exact mo_w_8 | assumption)); all_goals rfl) ?_
      refine em_putJ (i := 52) hG d_Mo_go_345 fo_Mo_243 rfl rfl (by decide) mv_52 (fun G hG => ?_)
      rw [← a3, va_up0] at hG
      refine ev_iinc d_Mo_go_348 rfl (by first | exact nI_1 _ | rfl) (by decide) ?_
      refine ev_goto 11 d_Mo_go_351 (by decide) ?_
      refine ev_aload_n d_Mo_go_11 rfl rfl ?_
      refine em_getI (i := 55) hG d_Mo_go_12 fo_Mo_253 rfl (by (repeat (first | apply va_up_t (h := by decide) | apply mo_w_t (h5 := by decide) (h7 := by decide) (h8 := by decide) | exact va_up_s | exact mo_w_5 | exact mo_w_7 | exact mo_w_8 | assumption)); all_goals rfl) ?_
      refine ev_if_ne 354 d_Mo_go_15 (by decide) (fun _ => ?_) (fun w => absurd w (by decide))
      subst ecf
      exact ev_vret d_Mo_go_354 rfl ⟨rfl, _, _, _, _, hG, (by repeat (first | exact mg_fr.rf | assumption | refine mg_fr.row ?_ | refine mg_fr.set ?_ | refine mg_fr.i ?_ (by decide) | refine mg_fr.j ?_ (by decide) | refine mg_fr.m ?_ (by decide))), (by (repeat (first | apply va_up_t (h := by decide) | apply mo_w_t (h5 := by decide) (h7 := by decide) (h8 := by decide) | exact va_up_s | exact mo_w_5 | exact mo_w_7 | exact mo_w_8 | assumption)); all_goals rfl), Nat.le_refl 2, Or.inr ⟨rfl, q2, hN, rfl, mr_oc hm, hq⟩⟩
    · rw [if_neg (by omega)] at hw
      have evc : (zSD z s 2).toNatClampNeg = v := by rw [show zSD z s 2 = nI v from hv, nI_clamp (by omega)]
      have hbg : rs_begun s q2 = q2 := rs_begun_id hgs
      have hmb := mr_begun (s := s) (li := zSD z s 1) hm
      rw [hbg] at hmb
      have ecs : rs_case (zSD z s) (zNf z s 0) q2 = rs_tick (rs_set v (zNf z s 0) (rs_row (zSD z s 1) (zNf z s 0) q2)) := by
        unfold rs_case
        rw [evc]
        rfl
      have hms := mr_tick (mr_set (v := v) (x := zNf z s 0) rfl (by show qT q2 < 2 ^ 31; omega) (mr_row (li := zSD z s 1) (x := zNf z s 0) rfl (by omega) hmb))
      rw [← ecs] at hms
      have w55 : va_up I2 54 (zSD z s 1) 55 = 0 := (va_up_n (by decide)).trans h55
      have hnu : zNf z s 0 ≠ -1000000 := (k3 y).2.2 0 (by omega)
      refine ev_aload_n d_Mo_go_324 rfl rfl ?_
      refine ev_aload_n d_Mo_go_325 rfl rfl ?_
      refine em_getI (i := 55) hG d_Mo_go_326 fo_Mo_253 rfl (by (repeat (first | apply va_up_t (h := by decide) | apply mo_w_t (h5 := by decide) (h7 := by decide) (h8 := by decide) | exact va_up_s | exact mo_w_5 | exact mo_w_7 | exact mo_w_8 | assumption)); all_goals rfl) ?_
      refine ev_if_ne 341 d_Mo_go_329 (by decide) (fun w => absurd rfl w) (fun _ => ?_)
      refine ev_aload_n d_Mo_go_332 rfl rfl ?_
      refine em_getJ (i := 52) hG d_Mo_go_333 fo_Mo_243 rfl (by (repeat (first | apply va_up_t (h := by decide) | apply mo_w_t (h5 := by decide) (h7 := by decide) (h8 := by decide) | exact va_up_s | exact mo_w_5 | exact mo_w_7 | exact mo_w_8 | assumption)); all_goals rfl) ?_
      refine ev_lconst (v := 1) d_Mo_go_336 (by decide) ?_
      refine ev_ladd d_Mo_go_337 ?_
      rw [lN_1]
      refine ev_goto 345 d_Mo_go_338 (by decide) ?_
      refine em_putJ (i := 52) hG d_Mo_go_345 fo_Mo_243 rfl rfl (by decide) mv_52 (fun G hG => ?_)
      refine ev_iinc d_Mo_go_348 rfl (by first | exact nI_1 _ | rfl) (by decide) ?_
      refine ev_goto 11 d_Mo_go_351 (by decide) ?_
      refine ih ((s, 0) :: K) (s + 1) _ _ _ _ _ G hw gk2 ?_ ?_ ?_ ?_ (rq_case hq hN hnu) ?_ hG
      · exact kc2
      · exact kg2 rfl
      · exact w55
      · exact hms
      · exact (by repeat (first | exact mg_fr.rf | assumption | refine mg_fr.row ?_ | refine mg_fr.set ?_ | refine mg_fr.i ?_ (by decide) | refine mg_fr.j ?_ (by decide) | refine mg_fr.m ?_ (by decide)))
  · have hnx := gk_next hn hse hs hk hne hnl
    replace x24 : M2 24 s = 7 := by rw [x24]; show mkd (zSd z s 0) = 7; rw [y]; decide
    refine ev_aload_n d_Mo_go_250 rfl rfl ?_
    refine em_getA (i := 24) hG d_Mo_go_251 fo_Mo_47 rfl ?_
    refine ev_iload d_Mo_go_254 rfl ?_
    refine em_iald (i := 24) (N := 1200) hG d_Mo_go_256 rfl rfl (by decide) (by omega) (by (repeat (first | apply va_up_mt (h := by decide) | apply va_up_ms | apply pk_ut (h := by omega) | apply pk_uLt (h := by omega) | exact pk_us | exact pk_uLs | assumption)); all_goals rfl) ?_
    refine ev_bipush (v := 7) d_Mo_go_257 (by decide) ?_
    refine ev_icmp_ne 274 d_Mo_go_259 (by decide) (fun w => absurd rfl w) (fun _ => ?_)
    refine ev_aload_n d_Mo_go_262 rfl rfl ?_
    refine em_getA (i := 31) hG d_Mo_go_263 fo_Mo_68 rfl ?_
    refine ev_iload d_Mo_go_266 rfl ?_
    refine em_iald (i := 31) (N := 1200) hG d_Mo_go_268 rfl rfl (by decide) (by omega) (by (repeat (first | apply va_up_mt (h := by decide) | apply va_up_ms | apply pk_ut (h := by omega) | apply pk_uLt (h := by omega) | exact pk_us | exact pk_uLs | assumption)); all_goals rfl) ?_
    refine ev_istore d_Mo_go_269 (by decide) ?_
    refine ev_goto 11 d_Mo_go_271 (by decide) ?_
    exact ih _ _ _ _ _ _ _ G (hw8 y) hnx hc hkg h55 hm hq hf hG
set_option maxHeartbeats 2000000 in
theorem mo_go_at {m s : Nat} {K : List (Nat × Nat)} (hz : pz_ok z) (hn : pz_n z lv) (hr : r < 8) (ht : t ≤ 12) (hpl : mpl_ok z c M W) (ha : ma_at N av at' ax I M W) (hok : ma_ok N n kf vf av at' ax) (hen : en ≤ zSn z) (hse : ∀ j, st ≤ j → j < en → zBh z j ≤ en) {I1 : Nat → Int32} {J1 : Nat → Int64} {M1 : Nat → Nat → Int32} {W1 : Nat → Nat → Int64} {G : pm_G}
    (ih : ∀ (K : List (Nat × Nat)) (s : Nat) (q : rs_T) (I1 : Nat → Int32) (J1 : Nat → Int64) (M1 : Nat → Nat → Int32) (W1 : Nat → Nat → Int64) (G : pm_G), gs_it en n kf vf (zSD z) (zNl z) (zNf z) (zBh z) m (K, s, q, 0) = cf → gk z lv st en K s → kc K (M1 37) (M1 59) → kg K q → I1 55 = 0 → mr_ok z r t q I1 J1 M1 W1 → rq_ok q → mg_fr r t I I1 J J1 M M1 W W1 → mo_at G0 a A I1 J1 M1 W1 G → ev_W l X m_Mo_go 4 0 0 (go_Q G0 a A z r t I J M W cf) 0 0 11 [(0, .ref a), (1, .int (nI st)), (2, .int (nI en)), (3, .int (nI t)), (4, .int (nI K.length)), (5, .int (nI s))] [] G)
    (hw : gs_it en n kf vf (zSD z) (zNl z) (zNf z) (zBh z) m (gs_at n kf vf (zSD z) (zNf z) (zBh z) K s q) = cf) (hk : gk z lv st en K s) (hne : ∀ b tu K', K = (b, tu) :: K' → s ≠ zBh z b) (hnl : K = [] → s < en) (hc : kc K (M1 37) (M1 59)) (hkg : kg K q) (h55 : I1 55 = 0) (hm : mr_ok z r t q I1 J1 M1 W1) (hq : rq_ok q) (hf : mg_fr r t I I1 J J1 M M1 W W1) (hG : mo_at G0 a A I1 J1 M1 W1 G) : ev_W l X m_Mo_go 4 0 0 (go_Q G0 a A z r t I J M W cf) 0 0 175 [(0, .ref a), (1, .int (nI st)), (2, .int (nI en)), (3, .int (nI t)), (4, .int (nI K.length)), (5, .int (nI s))] [] G := by
  obtain ⟨hs, hlv⟩ := gk_place hn hen hk hne hnl
  have hnx := gk_next hn hse hs hk hne hnl
  obtain ⟨a1, a2, a3, a4, a5, a6, a7, a8, a9, a10, a11, a12, a13⟩ := id hm
  have snb := hz.1.sn
  have hp1 := hpl.fr hf
  have hms := hp1.2.1 s hs
  have hsk := hn.1 s hs
  obtain ⟨x24, x25, x26, x27, x28, x29, x30, x32⟩ := id hms
  obtain ⟨k1, k2, k3, k4, k5, k6, ⟨k, k71, k72, k73⟩, k8, k9⟩ := id hsk
  have hT31 : qT q < 2 ^ 25 := by have := hq.2.1; have := hq.1; omega
  have x25' : M1 25 s = zSD z s 1 := x25
  have ek : zSD z s 0 = nI k := k73
  have hG' : qG (rs_do n kf vf s (zSD z s) q).1 = upd (qG q) s 1 := rs_do_G
  have kg1 : kg K (rs_do n kf vf s (zSD z s) q).1 := fun e he => by
    rw [hG']
    by_cases w : e.1 = s
    · rw [w, pk_us]
    · rw [pk_un w]; exact hkg e he
  have hh := hok.2.2.1
  by_cases hsm : k ≤ 5
  · -- a simple step
    have hnb : ¬ bk_g (zSd z s) := by
      intro w
      have hkk : mkd (nI k) < 5 := by
        have : k = 1 ∨ k = 2 ∨ k = 3 ∨ k = 4 ∨ k = 5 := by omega
        rcases this with rfl | rfl | rfl | rfl | rfl <;> decide
      exact (mkd_lt k71 k72).mp hkk (by unfold bk_g at w ⊢; rw [k73] at w; exact w)
    have eb : zBh z s = s + 1 := hn.2.2.2.2.1 s hs hnb
    have h5 : zSD z s 0 = 1 ∨ zSD z s 0 = 2 ∨ zSD z s 0 = 3 ∨ zSD z s 0 = 4 ∨ zSD z s 0 = 5 := by
      rw [ek]
      have : k = 1 ∨ k = 2 ∨ k = 3 ∨ k = 4 ∨ k = 5 := by omega
      rcases this with rfl | rfl | rfl | rfl | rfl <;> decide
    have n6 : ¬ zSD z s 0 = 6 := fun w => hnb (Or.inl w)
    have n7 : ¬ zSD z s 0 = 7 := fun w => hnb (Or.inr (Or.inl w))
    have e24 : M1 24 s < 5 := by
      rw [x24, ek]
      have : k = 1 ∨ k = 2 ∨ k = 3 ∨ k = 4 ∨ k = 5 := by omega
      rcases this with rfl | rfl | rfl | rfl | rfl <;> decide
    obtain ⟨kd, hkd⟩ : ∃ y, M1 24 s = y := ⟨_, rfl⟩
    rw [hkd] at e24
    clear x24
    refine ev_aload_n d_Mo_go_175 rfl rfl ?_
    refine em_getA (i := 24) hG d_Mo_go_176 fo_Mo_47 rfl ?_
    refine ev_iload d_Mo_go_179 rfl ?_
    refine em_iald (i := 24) (N := 1200) hG d_Mo_go_181 rfl rfl (by decide) (by omega) (by (repeat (first | apply va_up_mt (h := by decide) | apply va_up_ms | apply pk_ut (h := by omega) | apply pk_uLt (h := by omega) | exact pk_us | exact pk_uLs | assumption)); all_goals rfl) ?_
    refine ev_iconst (v := 5) d_Mo_go_182 (by decide) ?_
    refine ev_icmp_ge 223 d_Mo_go_183 (by decide) (fun w => absurd e24 (Int32.not_lt.mpr w)) (fun _ => ?_)
    refine ev_aload_n d_Mo_go_186 rfl rfl ?_
    refine ev_iload d_Mo_go_187 rfl ?_
    refine ev_iload_n d_Mo_go_189 rfl rfl ?_
    refine ev_callV2 d_Mo_go_190 ck_Mo_simple ml_Mo_290 im_Mo_simple se_Mo_simple rfl hG.1 (c_Mo_simple (n := n) (kf := kf) (vf := vf) (g := zSD z s) hG hm hq hr ht (by omega) hms hsk (ha.fr hf) hok h55 h5) (by omega) (Nat.le_of_ble_eq_true rfl) (by omega) (by omega) ?_
    rintro _ G ⟨rfl, I2, J2, M2, W2, hG, hf2, h37, h59, h⟩
    have hf3 := hf.tr hf2
    rcases h with ⟨hN, o55, hm2⟩ | ⟨hN, q1, gd, ed, o55, hm2⟩
    · have eg : gs_at n kf vf (zSD z) (zNf z) (zBh z) K s q = (K, s, rs_spent q, 2) := by unfold gs_at; rw [if_pos hN]
      rw [eg] at hw
      have ecf := gs_fx hw (fun w => absurd (show (2 : Nat) = 0 from w.1) (by decide))
      have b3 := hm2.2.2.1
      refine ev_aload_n d_Mo_go_193 rfl rfl ?_
      refine ev_aload_n d_Mo_go_194 rfl rfl ?_
      refine em_getI (i := 55) hG d_Mo_go_195 fo_Mo_253 rfl (by (repeat (first | apply va_up_t (h := by decide) | apply mo_w_t (h5 := by decide) (h7 := by decide) (h8 := by decide) | exact va_up_s | exact mo_w_5 | exact mo_w_7 | exact mo_w_8 | assumption)); all_goals rfl) ?_
      refine ev_if_ne 210 d_Mo_go_198 (by decide) (fun _ => ?_) (fun w => absurd w (by decide))
      refine ev_aload_n d_Mo_go_210 rfl rfl ?_
      refine em_getJ (i := 52) hG d_Mo_go_211 fo_Mo_243 rfl (by (repeat (first | apply va_up_t (h := by decide) | apply mo_w_t (h5 := by decide) (h7 := by decide) (h8 := by decide) | exact va_up_s | exact mo_w_5 | exact mo_w_7 | exact mo_w_8 | assumption)); all_goals rfl) ?_
      refine em_putJ (i := 52) hG d_Mo_go_214 fo_Mo_243 rfl rfl (by decide) mv_52 (fun G hG => ?_)
      rw [← b3, va_up0] at hG
      refine ev_iinc d_Mo_go_217 rfl (by first | exact nI_1 _ | rfl) (by decide) ?_
      refine ev_goto 11 d_Mo_go_220 (by decide) ?_
      refine ev_aload_n d_Mo_go_11 rfl rfl ?_
      refine em_getI (i := 55) hG d_Mo_go_12 fo_Mo_253 rfl (by (repeat (first | apply va_up_t (h := by decide) | apply mo_w_t (h5 := by decide) (h7 := by decide) (h8 := by decide) | exact va_up_s | exact mo_w_5 | exact mo_w_7 | exact mo_w_8 | assumption)); all_goals rfl) ?_
      refine ev_if_ne 354 d_Mo_go_15 (by decide) (fun _ => ?_) (fun w => absurd w (by decide))
      subst ecf
      exact ev_vret d_Mo_go_354 rfl ⟨rfl, _, _, _, _, hG, hf3, o55, Nat.le_refl 2, Or.inr ⟨rfl, q, hN, rfl, hm2, hq⟩⟩
    · have b3 := hm2.2.2.1
      have hrq := rq_do (i := s) (vf := vf) hh hq hsk hN
      cases gd with
      | false =>
        have e2 : (rs_do n kf vf s (zSD z s) q) = (q1, false) := ed
        have o1 : I2 55 = 1 := o55
        clear o55
        have eg : gs_at n kf vf (zSD z) (zNf z) (zBh z) K s q = (K, s, q1, 1) := by unfold gs_at; rw [if_neg (by omega), e2, if_pos rfl]
        rw [eg] at hw
        have ecf := gs_fx hw (fun w => absurd (show (1 : Nat) = 0 from w.1) (by decide))
        have hrq1 : rq_ok q1 := by
          have : rq_ok (rs_do n kf vf s (zSD z s) q).1 := hrq
          rw [e2] at this
          exact this
        refine ev_aload_n d_Mo_go_193 rfl rfl ?_
        refine ev_aload_n d_Mo_go_194 rfl rfl ?_
        refine em_getI (i := 55) hG d_Mo_go_195 fo_Mo_253 rfl (by (repeat (first | apply va_up_t (h := by decide) | apply mo_w_t (h5 := by decide) (h7 := by decide) (h8 := by decide) | exact va_up_s | exact mo_w_5 | exact mo_w_7 | exact mo_w_8 | assumption)); all_goals rfl) ?_
        refine ev_if_ne 210 d_Mo_go_198 (by decide) (fun _ => ?_) (fun w => absurd w (by decide))
        refine ev_aload_n d_Mo_go_210 rfl rfl ?_
        refine em_getJ (i := 52) hG d_Mo_go_211 fo_Mo_243 rfl (by (repeat (first | apply va_up_t (h := by decide) | apply mo_w_t (h5 := by decide) (h7 := by decide) (h8 := by decide) | exact va_up_s | exact mo_w_5 | exact mo_w_7 | exact mo_w_8 | assumption)); all_goals rfl) ?_
        refine em_putJ (i := 52) hG d_Mo_go_214 fo_Mo_243 rfl rfl (by decide) mv_52 (fun G hG => ?_)
        rw [← b3, va_up0] at hG
        refine ev_iinc d_Mo_go_217 rfl (by first | exact nI_1 _ | rfl) (by decide) ?_
        refine ev_goto 11 d_Mo_go_220 (by decide) ?_
        refine ev_aload_n d_Mo_go_11 rfl rfl ?_
        refine em_getI (i := 55) hG d_Mo_go_12 fo_Mo_253 rfl (by (repeat (first | apply va_up_t (h := by decide) | apply mo_w_t (h5 := by decide) (h7 := by decide) (h8 := by decide) | exact va_up_s | exact mo_w_5 | exact mo_w_7 | exact mo_w_8 | assumption)); all_goals rfl) ?_
        refine ev_if_ne 354 d_Mo_go_15 (by decide) (fun _ => ?_) (fun w => absurd w (by decide))
        subst ecf
        exact ev_vret d_Mo_go_354 rfl ⟨rfl, _, _, _, _, hG, hf3, o1, by show 1 ≤ 2; omega, Or.inl ⟨by show (1 : Nat) ≠ 2; omega, hm2, hrq1⟩⟩
      | true =>
        have e2 : (rs_do n kf vf s (zSD z s) q) = (rs_tick q1, true) := ed
        have o1 : I2 55 = 0 := o55
        clear o55
        have eg : gs_at n kf vf (zSD z) (zNf z) (zBh z) K s q = (K, s + 1, rs_tick q1, 0) := by
          unfold gs_at
          rw [if_neg (by omega), e2, if_neg (fun w => Bool.noConfusion (show true = false from w)), if_neg n6, if_neg n7, eb]
        rw [eg] at hw
        have hrq1 : rq_ok (rs_tick q1) := by
          have : rq_ok (rs_do n kf vf s (zSD z s) q).1 := hrq
          rw [e2] at this
          exact this
        have hm3 := mr_tick hm2
        refine ev_aload_n d_Mo_go_193 rfl rfl ?_
        refine ev_aload_n d_Mo_go_194 rfl rfl ?_
        refine em_getI (i := 55) hG d_Mo_go_195 fo_Mo_253 rfl (by (repeat (first | apply va_up_t (h := by decide) | apply mo_w_t (h5 := by decide) (h7 := by decide) (h8 := by decide) | exact va_up_s | exact mo_w_5 | exact mo_w_7 | exact mo_w_8 | assumption)); all_goals rfl) ?_
        refine ev_if_ne 210 d_Mo_go_198 (by decide) (fun w => absurd rfl w) (fun _ => ?_)
        refine ev_aload_n d_Mo_go_201 rfl rfl ?_
        refine em_getJ (i := 52) hG d_Mo_go_202 fo_Mo_243 rfl (by (repeat (first | apply va_up_t (h := by decide) | apply mo_w_t (h5 := by decide) (h7 := by decide) (h8 := by decide) | exact va_up_s | exact mo_w_5 | exact mo_w_7 | exact mo_w_8 | assumption)); all_goals rfl) ?_
        refine ev_lconst (v := 1) d_Mo_go_205 (by decide) ?_
        refine ev_ladd d_Mo_go_206 ?_
        rw [lN_1]
        refine ev_goto 214 d_Mo_go_207 (by decide) ?_
        refine em_putJ (i := 52) hG d_Mo_go_214 fo_Mo_243 rfl rfl (by decide) mv_52 (fun G hG => ?_)
        refine ev_iinc d_Mo_go_217 rfl (by first | exact nI_1 _ | rfl) (by decide) ?_
        refine ev_goto 11 d_Mo_go_220 (by decide) ?_
        refine ih _ _ _ _ _ _ _ G hw ?_ ?_ ?_ ?_ ?_ hrq1 ?_ hG
        · rw [← eb]; exact hnx
        · rw [h37, h59]; exact hc
        · rw [e2] at kg1; exact kg1
        · exact o1
        · exact hm3
        · exact hf3.j (by decide)
  · -- a block
    have e24 : ¬ M1 24 s < 5 := by
      rw [x24, ek]
      have : k = 6 ∨ k = 7 ∨ k = 8 := by omega
      rcases this with rfl | rfl | rfl <;> decide
    obtain ⟨kd, hkd⟩ : ∃ y, y = mkd (nI k) := ⟨_, rfl⟩
    replace x24 : M1 24 s = kd := by rw [x24, ek, hkd]
    rw [x24] at e24
    have ed : rs_do n kf vf s (zSD z s) q = (rs_tick (rs_row (zSD z s 1) 0 (rs_begun s q)), true) := by
      unfold rs_do
      rw [ek]
      have : k = 6 ∨ k = 7 ∨ k = 8 := by omega
      rcases this with rfl | rfl | rfl <;> rw [if_neg (by decide), if_neg (by decide), if_neg (by decide), if_neg (by decide), if_neg (by decide)]
    refine ev_aload_n d_Mo_go_175 rfl rfl ?_
    refine em_getA (i := 24) hG d_Mo_go_176 fo_Mo_47 rfl ?_
    refine ev_iload d_Mo_go_179 rfl ?_
    refine em_iald (i := 24) (N := 1200) hG d_Mo_go_181 rfl rfl (by decide) (by omega) (by (repeat (first | apply va_up_mt (h := by decide) | apply va_up_ms | apply pk_ut (h := by omega) | apply pk_uLt (h := by omega) | exact pk_us | exact pk_uLs | assumption)); all_goals rfl) ?_
    refine ev_iconst (v := 5) d_Mo_go_182 (by decide) ?_
    refine ev_icmp_ge 223 d_Mo_go_183 (by decide) (fun _ => ?_) (fun w => absurd (Int32.not_le.mp w) e24)
    refine ev_aload_n d_Mo_go_223 rfl rfl ?_
    refine ev_iload d_Mo_go_224 rfl ?_
    refine ev_callV1 d_Mo_go_226 ck_Mo_begin ml_Mo_259 im_Mo_begin se_Mo_begin rfl hG.1 (c_Mo_begin hG a1 hr a7 hq.1 (by omega) x25') (by omega) (Nat.le_of_ble_eq_true rfl) (by omega) (by omega) ?_
    rintro _ G (⟨hN, rfl, hG⟩ | ⟨hN, rfl, hG⟩)
    · have eg : gs_at n kf vf (zSD z) (zNf z) (zBh z) K s q = (K, s, rs_spent q, 2) := by unfold gs_at; rw [if_pos hN]
      rw [eg] at hw
      have ecf := gs_fx hw (fun w => absurd (show (2 : Nat) = 0 from w.1) (by decide))
      refine ev_if_ne 233 d_Mo_go_229 (by decide) (fun w => absurd rfl w) (fun _ => ?_)
      subst ecf
      exact ev_vret d_Mo_go_232 rfl ⟨rfl, _, _, _, _, hG, hf.i (by decide), va_up_s, Nat.le_refl 2, Or.inr ⟨rfl, q, hN, rfl, mr_oc hm, hq⟩⟩
    · refine ev_if_ne 233 d_Mo_go_229 (by decide) (fun _ => ?_) (fun w => absurd w (by decide))
      have hb := mr_begun (s := s) (li := zSD z s 1) hm
      have b44 : va_up I1 54 (zSD z s 1) 44 = nI (r + 1) := (by (repeat (first | apply va_up_t (h := by decide) | apply mo_w_t (h5 := by decide) (h7 := by decide) (h8 := by decide) | exact va_up_s | exact mo_w_5 | exact mo_w_7 | exact mo_w_8 | assumption)); all_goals rfl)
      have b45 : va_up M1 33 (upd (M1 33) s 1) 45 r = nI (qN q) := a7
      have b25 : va_up M1 33 (upd (M1 33) s 1) 25 s = zSD z s 1 := x25'
      have hrq : rq_ok (rs_do n kf vf s (zSD z s) q).1 := rq_do (i := s) (vf := vf) hh hq hsk hN
      rw [ed] at hrq kg1
      replace hrq : rq_ok (rs_tick (rs_row (zSD z s 1) 0 (rs_begun s q))) := hrq
      replace kg1 : kg K (rs_tick (rs_row (zSD z s 1) 0 (rs_begun s q))) := kg1
      refine ev_aload_n d_Mo_go_233 rfl rfl ?_
      refine ev_iload d_Mo_go_234 rfl ?_
      refine ev_lconst (v := 0) d_Mo_go_236 (by decide) ?_
      refine ev_callV2 d_Mo_go_237 ck_Mo_row ml_Mo_262 im_Mo_row se_Mo_row rfl hG.1 (c_Mo_row hG b44 hr b45 hN (by omega) b25) (by omega) (Nat.le_of_ble_eq_true rfl) (by omega) (by omega) ?_
      rintro _ G ⟨rfl, hG⟩
      have hrow := mr_row (q := rs_begun s q) (li := zSD z s 1) (x := 0) (X := 0) (by decide) (by show qT q < 2 ^ 31; omega) hb
      have hm3 := mr_tick hrow
      have w24 : mw_M (va_up M1 33 (upd (M1 33) s 1)) r (qN q) (zSD z s 1) 24 s = kd := x24
      have hf3 : mg_fr r t I (va_up I1 54 (zSD z s 1)) J (va_up J1 52 (lN (qT q + 1))) M (mw_M (va_up M1 33 (upd (M1 33) s 1)) r (qN q) (zSD z s 1)) W (mw_W W1 J1 r (qN q) 0) := (by repeat (first | exact mg_fr.rf | assumption | refine mg_fr.row ?_ | refine mg_fr.set ?_ | refine mg_fr.i ?_ (by decide) | refine mg_fr.j ?_ (by decide) | refine mg_fr.m ?_ (by decide)))
      have c37 : kc K (mw_M (va_up M1 33 (upd (M1 33) s 1)) r (qN q) (zSD z s 1) 37) (mw_M (va_up M1 33 (upd (M1 33) s 1)) r (qN q) (zSD z s 1) 59) := hc
      have o55 : va_up I1 54 (zSD z s 1) 55 = 0 := (va_up_n (by decide)).trans h55
      have hgs : qG (rs_tick (rs_row (zSD z s 1) 0 (rs_begun s q))) s = 1 := pk_us
      have h678 : zSd z s 0 = 6 ∨ zSd z s 0 = 7 ∨ zSd z s 0 = 8 := by
        rw [k73]
        have : k = 6 ∨ k = 7 ∨ k = 8 := by omega
        rcases this with rfl | rfl | rfl <;> decide
      have e2 : gs_at n kf vf (zSD z) (zNf z) (zBh z) K s q = (if zSD z s 0 = 6 then ((s, 0) :: K, s + 1, rs_tick (rs_row (zSD z s 1) 0 (rs_begun s q)), 0)
          else if zSD z s 0 = 7 then (if qN (rs_tick (rs_row (zSD z s 1) 0 (rs_begun s q))) = 2000 then ((s, 0) :: K, s + 1, rs_spent (rs_tick (rs_row (zSD z s 1) 0 (rs_begun s q))), 2) else ((s, 0) :: K, s + 1, rs_case (zSD z s) (zNf z s 0) (rs_tick (rs_row (zSD z s 1) 0 (rs_begun s q))), 0))
          else (K, zBh z s, rs_tick (rs_row (zSD z s 1) 0 (rs_begun s q)), 0)) := by
        unfold gs_at
        rw [if_neg (by omega), ed, if_neg (fun w => Bool.noConfusion (show true = false from w))]
      rw [e2] at hw
      refine ev_aload_n d_Mo_go_240 rfl rfl ?_
      refine ev_dup d_Mo_go_241 rfl ?_
      refine em_getJ (i := 52) hG d_Mo_go_242 fo_Mo_243 rfl (by (repeat (first | apply va_up_t (h := by decide) | apply mo_w_t (h5 := by decide) (h7 := by decide) (h8 := by decide) | exact va_up_s | exact mo_w_5 | exact mo_w_7 | exact mo_w_8 | assumption)); all_goals rfl) ?_
      refine ev_lconst (v := 1) d_Mo_go_245 (by decide) ?_
      refine ev_ladd d_Mo_go_246 ?_
      rw [lN_1]
      refine em_putJ (i := 52) hG d_Mo_go_247 fo_Mo_243 rfl rfl (by decide) mv_52 (fun G hG => ?_)
      refine mo_go_blk (c := c) hz hn hr hse ih hs hlv hk hne hnl h678 (fun y => ?_) (fun y => ?_) (fun y => ?_) (hpl.fr hf3) c37 kg1 hgs o55 hm3 hrq hf3 hG
      · rw [if_pos (show zSD z s 0 = 6 from y)] at hw; exact hw
      · have y2 : zSD z s 0 = 7 := y
        rw [if_neg (by rw [y2]; decide), if_pos y2] at hw; exact hw
      · have y2 : zSD z s 0 = 8 := y
        rw [if_neg (by rw [y2]; decide), if_neg (by rw [y2]; decide)] at hw; exact hw
set_option maxHeartbeats 1000000 in
theorem c_Mo_go {m : Nat} (hz : pz_ok z) (hn : pz_n z lv) (hr : r < 8) (ht : t ≤ 12) (hpl : mpl_ok z c M W) (ha : ma_at N av at' ax I M W) (hok : ma_ok N n kf vf av at' ax) (hst : st ≤ en) (hen : en ≤ zSn z) (hse : ∀ j, st ≤ j → j < en → zBh z j ≤ en) (hw : gs_it en n kf vf (zSD z) (zNl z) (zNf z) (zBh z) m ([], st, q, 0) = cf) (hd : gs_done en cf) (hm : mr_ok z r t q I J M W) (hq : rq_ok q) (hG : mo_at G0 a A I J M W G) : cn_M l X m_Mo_go 4 0 0 [.ref a, .int (nI st), .int (nI en), .int (nI t)] G (go_Q G0 a A z r t I J M W cf) := by
  have snb := hz.1.sn
  refine cn_in rfl (Nat.le_of_ble_eq_true rfl) ?_
  have loop : ∀ (m : Nat) (K : List (Nat × Nat)) (s : Nat) (q : rs_T) (I1 : Nat → Int32) (J1 : Nat → Int64) (M1 : Nat → Nat → Int32) (W1 : Nat → Nat → Int64) (G : pm_G), gs_it en n kf vf (zSD z) (zNl z) (zNf z) (zBh z) m (K, s, q, 0) = cf → gk z lv st en K s → kc K (M1 37) (M1 59) → kg K q → I1 55 = 0 → mr_ok z r t q I1 J1 M1 W1 → rq_ok q → mg_fr r t I I1 J J1 M M1 W W1 → mo_at G0 a A I1 J1 M1 W1 G → ev_W l X m_Mo_go 4 0 0 (go_Q G0 a A z r t I J M W cf) 0 0 11 [(0, .ref a), (1, .int (nI st)), (2, .int (nI en)), (3, .int (nI t)), (4, .int (nI K.length)), (5, .int (nI s))] [] G := by
    intro m
    induction m with
    | zero =>
      intro K s q I1 J1 M1 W1 G hw hk hc hkg h55 hm hq hf hG
      have ecf : cf = (K, s, q, 0) := hw.symm
      rw [ecf] at hd
      have hd2 : K = [] ∧ en ≤ s := Classical.byContradiction fun y => hd ⟨rfl, y⟩
      obtain ⟨rfl, hes⟩ := hd2
      have hsn : s ≤ en := hk.2
      subst ecf
      refine ev_aload_n d_Mo_go_11 rfl rfl ?_
      refine em_getI (i := 55) hG d_Mo_go_12 fo_Mo_253 rfl (by (repeat (first | apply va_up_t (h := by decide) | apply mo_w_t (h5 := by decide) (h7 := by decide) (h8 := by decide) | exact va_up_s | exact mo_w_5 | exact mo_w_7 | exact mo_w_8 | assumption)); all_goals rfl) ?_
      refine ev_if_ne 354 d_Mo_go_15 (by decide) (fun w => absurd rfl w) (fun _ => ?_)
      refine ev_iload d_Mo_go_18 rfl ?_
      refine ev_if_gt 29 d_Mo_go_20 (by decide) (fun w => absurd (show (0 : Int32) < nI 0 from w) (by decide)) (fun _ => ?_)
      refine ev_iload d_Mo_go_23 rfl ?_
      refine ev_iload_n d_Mo_go_25 rfl rfl ?_
      refine ev_icmp_ge 354 d_Mo_go_26 (by decide) (fun _ => ?_) (fun w => absurd (nI_le hes (by omega)) w)
      exact ev_vret d_Mo_go_354 rfl ⟨rfl, _, _, _, _, hG, hf, h55, Nat.zero_le _, Or.inl ⟨by show (0 : Nat) ≠ 2; omega, hm, hq⟩⟩
    | succ m ih =>
      intro K s q I1 J1 M1 W1 G hw hk hc hkg h55 hm hq hf hG
      have hp1 := hpl.fr hf
      cases K with
      | nil =>
        have hsn : s ≤ en := hk.2
        by_cases hes : en ≤ s
        · have ecf := gs_fx hw (fun w => w.2 ⟨rfl, hes⟩)
          subst ecf
          refine ev_aload_n d_Mo_go_11 rfl rfl ?_
          refine em_getI (i := 55) hG d_Mo_go_12 fo_Mo_253 rfl (by (repeat (first | apply va_up_t (h := by decide) | apply mo_w_t (h5 := by decide) (h7 := by decide) (h8 := by decide) | exact va_up_s | exact mo_w_5 | exact mo_w_7 | exact mo_w_8 | assumption)); all_goals rfl) ?_
          refine ev_if_ne 354 d_Mo_go_15 (by decide) (fun w => absurd rfl w) (fun _ => ?_)
          refine ev_iload d_Mo_go_18 rfl ?_
          refine ev_if_gt 29 d_Mo_go_20 (by decide) (fun w => absurd (show (0 : Int32) < nI 0 from w) (by decide)) (fun _ => ?_)
          refine ev_iload d_Mo_go_23 rfl ?_
          refine ev_iload_n d_Mo_go_25 rfl rfl ?_
          refine ev_icmp_ge 354 d_Mo_go_26 (by decide) (fun _ => ?_) (fun w => absurd (nI_le hes (by omega)) w)
          exact ev_vret d_Mo_go_354 rfl ⟨rfl, _, _, _, _, hG, hf, h55, Nat.zero_le _, Or.inl ⟨by show (0 : Nat) ≠ 2; omega, hm, hq⟩⟩
        · have hg : gs en n kf vf (zSD z) (zNl z) (zNf z) (zBh z) ([], s, q, 0) = gs_at n kf vf (zSD z) (zNf z) (zBh z) [] s q := gs_mid (fun b tu K' w => by cases w) (fun _ => by omega)
          have hw2 : gs_it en n kf vf (zSD z) (zNl z) (zNf z) (zBh z) m (gs_at n kf vf (zSD z) (zNf z) (zBh z) [] s q) = cf := by rw [← hg]; exact hw
          refine ev_aload_n d_Mo_go_11 rfl rfl ?_
          refine em_getI (i := 55) hG d_Mo_go_12 fo_Mo_253 rfl (by (repeat (first | apply va_up_t (h := by decide) | apply mo_w_t (h5 := by decide) (h7 := by decide) (h8 := by decide) | exact va_up_s | exact mo_w_5 | exact mo_w_7 | exact mo_w_8 | assumption)); all_goals rfl) ?_
          refine ev_if_ne 354 d_Mo_go_15 (by decide) (fun w => absurd rfl w) (fun _ => ?_)
          refine ev_iload d_Mo_go_18 rfl ?_
          refine ev_if_gt 29 d_Mo_go_20 (by decide) (fun w => absurd (show (0 : Int32) < nI 0 from w) (by decide)) (fun _ => ?_)
          refine ev_iload d_Mo_go_23 rfl ?_
          refine ev_iload_n d_Mo_go_25 rfl rfl ?_
          refine ev_icmp_ge 354 d_Mo_go_26 (by decide) (fun w => absurd w (nI_ge (by omega) (by omega))) (fun _ => ?_)
          refine ev_iload d_Mo_go_29 rfl ?_
          refine ev_if_le 175 d_Mo_go_31 (by decide) (fun _ => ?_) (fun w => absurd (show (nI 0 : Int32) ≤ 0 by decide) w)
          exact mo_go_at hz hn hr ht hpl ha hok hen hse ih hw2 hk (fun b tu K' w => by cases w) (fun _ => by omega) hc hkg h55 hm hq hf hG
      | cons e K =>
        obtain ⟨b, tu⟩ := e
        obtain ⟨g1, g2, g3, g4, g5, g6, g7⟩ := id hk
        obtain ⟨c1, c2, c3⟩ := id hc
        have lv7 : lv b ≤ 7 := (hn.2.2.2.1 b g3).resolve_right (fun y => y (bk_67 g4))
        have x31 := hp1.2.2.1 b g3 (bk_67 g4)
        have hbs := (hn.2.1 b g3).2
        show ev_W l X m_Mo_go 4 0 0 (go_Q G0 a A z r t I J M W cf) 0 0 11 [(0, .ref a), (1, .int (nI st)), (2, .int (nI en)), (3, .int (nI t)), (4, .int (nI (K.length + 1))), (5, .int (nI s))] [] G
        refine ev_aload_n d_Mo_go_11 rfl rfl ?_
        refine em_getI (i := 55) hG d_Mo_go_12 fo_Mo_253 rfl (by (repeat (first | apply va_up_t (h := by decide) | apply mo_w_t (h5 := by decide) (h7 := by decide) (h8 := by decide) | exact va_up_s | exact mo_w_5 | exact mo_w_7 | exact mo_w_8 | assumption)); all_goals rfl) ?_
        refine ev_if_ne 354 d_Mo_go_15 (by decide) (fun w => absurd rfl w) (fun _ => ?_)
        refine ev_iload d_Mo_go_18 rfl ?_
        refine ev_if_gt 29 d_Mo_go_20 (by decide) (fun _ => ?_) (fun w => absurd (nI_lt (a := 0) (by omega) (by omega)) w)
        refine ev_iload d_Mo_go_29 rfl ?_
        refine ev_if_le 175 d_Mo_go_31 (by decide) (fun w => absurd w (nI_nle (by omega) (by omega))) (fun _ => ?_)
        refine ev_iload d_Mo_go_34 rfl ?_
        refine ev_aload_n d_Mo_go_36 rfl rfl ?_
        refine em_getA (i := 31) hG d_Mo_go_37 fo_Mo_68 rfl ?_
        refine ev_aload_n d_Mo_go_40 rfl rfl ?_
        refine em_getA (i := 37) hG d_Mo_go_41 fo_Mo_81 rfl ?_
        refine ev_iload d_Mo_go_44 rfl ?_
        refine ev_iconst (v := 1) d_Mo_go_46 (by decide) ?_
        refine ev_isub d_Mo_go_47 ?_
        rw [nI_pred]
        refine em_iald (i := 37) (N := 12) hG d_Mo_go_48 rfl rfl (by decide) (by omega) (by (repeat (first | apply va_up_mt (h := by decide) | apply va_up_ms | apply pk_ut (h := by omega) | apply pk_uLt (h := by omega) | exact pk_us | exact pk_uLs | assumption)); all_goals rfl) ?_
        refine em_iald (i := 31) (N := 1200) hG d_Mo_go_49 rfl rfl (by decide) (by omega) (by (repeat (first | apply va_up_mt (h := by decide) | apply va_up_ms | apply pk_ut (h := by omega) | apply pk_uLt (h := by omega) | exact pk_us | exact pk_uLs | assumption)); all_goals rfl) ?_
        refine ev_icmp_ne 175 d_Mo_go_50 (by decide) (fun hb => ?_) (fun hb => ?_)
        · have hb : s ≠ zBh z b := fun y => hb (by rw [y])
          have hg : gs en n kf vf (zSD z) (zNl z) (zNf z) (zBh z) ((b, tu) :: K, s, q, 0) = gs_at n kf vf (zSD z) (zNf z) (zBh z) ((b, tu) :: K) s q := gs_mid (fun b' tu' K' w => by cases w; exact hb) (fun w => by cases w)
          have hw2 : gs_it en n kf vf (zSD z) (zNl z) (zNf z) (zBh z) m (gs_at n kf vf (zSD z) (zNf z) (zBh z) ((b, tu) :: K) s q) = cf := by rw [← hg]; exact hw
          exact mo_go_at hz hn hr ht hpl ha hok hen hse ih hw2 hk (fun b' tu' K' w => by cases w; exact hb) (fun w => by cases w) hc hkg h55 hm hq hf hG
        · have hb : s = zBh z b := (nI_eq (by omega) (by omega)).mp hb
          exact mo_go_end hz hn hr hpl hen ih hw hb hk hc hkg h55 hm hq hf hG
  refine ev_iconst (v := 0) d_Mo_go_0 (by decide) ?_
  refine ev_istore d_Mo_go_1 (by decide) ?_
  refine ev_iload_n d_Mo_go_3 rfl rfl ?_
  refine ev_istore d_Mo_go_4 (by decide) ?_
  refine ev_aload_n d_Mo_go_6 rfl rfl ?_
  refine ev_iconst (v := 0) d_Mo_go_7 (by decide) ?_
  refine em_putI (i := 55) hG d_Mo_go_8 fo_Mo_253 rfl rfl (by decide) mv_55 (fun G hG => ?_)
  exact loop m [] st q _ _ _ _ G hw ⟨Nat.le_refl _, hst⟩ trivial (fun e he => by cases he) va_up_s (mr_oc hm) hq (mg_fr.rf.i (by decide)) hG
end GO
