/-! THE LEAST SET OF TESTS: the class's search, the model's -/
def cntk (v : Int32) : Nat → Int32
  | 0 => 0
  | k + 1 => cntk v k + (v >>> (nI k &&& 31) &&& 1)
theorem cnt_bc2 : ∀ a, a < 64 → ∀ b, b < 64 → cntk (nI (64 * a + b)) 30 = bc_I (nI (64 * a + b)) := by decide +kernel
theorem cnt_bc (m : Nat) (h : m < 4096) : cntk (nI m) 30 = bc_I (nI m) := by
  have := cnt_bc2 (m / 64) (by omega) (m % 64) (by omega)
  rw [show 64 * (m / 64) + m % 64 = m by omega] at this
  exact this
theorem full_b : ∀ tn, tn < 13 → ∀ i, i < tn → ¬ (nI (2 ^ tn - 1) &&& (1 : Int32) <<< (nI (tn - 1 - i) &&& 31) = 0) := by decide +kernel
theorem one_sh : ∀ tn, tn < 13 → (1 : Int32) <<< (nI tn &&& 31) = nI (2 ^ tn) ∧ 2 ^ tn ≤ 4096 ∧ 0 < 2 ^ tn := by decide +kernel
/-- B is the best of those below E that bear all names: fewest, then the greatest -/
def bst (nb : Nat → Int32) (w : Int32) (E B : Nat) : Prop := B < E ∧ nb B = w ∧ ∀ m, m < E → nb m = w → (bc_I (nI B)).toInt < (bc_I (nI m)).toInt ∨ ((bc_I (nI B)).toInt = (bc_I (nI m)).toInt ∧ m ≤ B)
theorem bst_1 {nb : Nat → Int32} {w : Int32} {E B C : Nat} (h1 : bst nb w E B) (h2 : bst nb w E C) : B = C := by
  have a := h1.2.2 C h2.1 h2.2.1
  have b := h2.2.2 B h1.1 h1.2.1
  omega
theorem pl_fb_bst {td : Nat → Int64 × (Nat → Int32)} {tn E : Nat} {w : Int32} : ∀ (m b : Nat), m ≤ E → m ≤ b + 1 → b < E → pl_nb td tn (nI b) tn = w → (∀ k, m ≤ k → k < E → pl_nb td tn (nI k) tn = w → (bc_I (nI b)).toInt < (bc_I (nI k)).toInt ∨ ((bc_I (nI b)).toInt = (bc_I (nI k)).toInt ∧ k ≤ b)) → ∃ B, pl_fb td tn w m (nI b) = nI B ∧ bst (fun k => pl_nb td tn (nI k) tn) w E B := by
  intro m
  induction m with
  | zero => intro b _ _ h1 h2 h3; exact ⟨b, rfl, h1, h2, fun k hk hw => h3 k (Nat.zero_le _) hk hw⟩
  | succ m ih =>
    intro b hE hb h1 h2 h3
    rw [pl_fb]
    by_cases q : bc_I (nI m) < bc_I (nI b) ∧ pl_nb td tn (nI m) tn = w
    · rw [if_pos q]
      have q1 := Int32.lt_iff_toInt_lt.mp q.1
      refine ih m (by omega) (by omega) (by omega) q.2 (fun k k1 k2 k3 => ?_)
      by_cases y : k = m
      · rw [y]; exact Or.inr ⟨rfl, Nat.le_refl _⟩
      · have := h3 k (by omega) k2 k3
        exact Or.inl (by omega)
    · rw [if_neg q]
      refine ih b (by omega) (by omega) h1 h2 (fun k k1 k2 k3 => ?_)
      by_cases y : k = m
      · rw [y] at k3 ⊢
        have : ¬ (bc_I (nI m)).toInt < (bc_I (nI b)).toInt := fun w => q ⟨Int32.lt_iff_toInt_lt.mpr w, k3⟩
        by_cases w : (bc_I (nI b)).toInt = (bc_I (nI m)).toInt
        · exact Or.inr ⟨w, by omega⟩
        · exact Or.inl (by omega)
      · exact h3 k (by omega) k2 k3
theorem pl_best_bst {td : Nat → Int64 × (Nat → Int32)} {tn : Nat} (h : tn ≤ 12) : ∃ B, pl_best td tn = nI B ∧ bst (fun k => pl_nb td tn (nI k) tn) (pl_nb td tn (nI (2 ^ tn - 1)) tn) (2 ^ tn) B := by
  have e := (one_sh tn (by omega)).2
  exact pl_fb_bst (2 ^ tn) (2 ^ tn - 1) (Nat.le_refl _) (by omega) (by omega) rfl (fun k k1 k2 => by omega)
/-- all names -/
def nb_all (td : Nat → Int64 × (Nat → Int32)) : Nat → Int32
  | 0 => 0
  | i + 1 => nb_all td i ||| (td i).2 4
theorem nb_full {td : Nat → Int64 × (Nat → Int32)} {tn : Nat} (h : tn ≤ 12) : ∀ i, i ≤ tn → pl_nb td tn (nI (2 ^ tn - 1)) i = nb_all td i := by
  intro i
  induction i with
  | zero => intro _; rfl
  | succ i ih => intro hi; rw [pl_nb, if_neg (full_b tn (by omega) i (by omega)), nb_all, ih (by omega)]
theorem pl_lc_keep {tn : Nat} {b : Int32} {f0 : Nat → Int32} {i : Nat} : ∀ d j, j < (pl_lc tn b f0 i).1 → (pl_lc tn b f0 (i + d)).2 j = (pl_lc tn b f0 i).2 j ∧ (pl_lc tn b f0 i).1 ≤ (pl_lc tn b f0 (i + d)).1 := by
  intro d
  induction d with
  | zero => intro j _; exact ⟨rfl, Nat.le_refl _⟩
  | succ d ih =>
    intro j hj
    obtain ⟨h1, h2⟩ := ih j hj
    rw [show i + (d + 1) = (i + d) + 1 by omega, pl_lc]
    split
    · exact ⟨h1, h2⟩
    · exact ⟨(pk_un (by omega)).trans h1, Nat.le_succ_of_le h2⟩
section MLE
variable {l : Launch} {X : pm_X} {G G0 : pm_G} {a : Nat} {A : Nat → Nat} {I : Nat → Int32} {J : Nat → Int64} {M : Nat → Nat → Int32} {W : Nat → Nat → Int64} {z : pz} {c : Nat} {x v : Int32} {td : Nat → Int64 × (Nat → Int32)} {f0 : Nat → Int32}
theorem c_Mo_count : cn_M l X m_Mo_count 0 0 0 [.int v] G (fun r G' => r = some (.int (cntk v 30)) ∧ G = G') := by
  refine cn_in rfl (Nat.le_of_ble_eq_true rfl) ?_
  have loop : ∀ (m k : Nat), k + m = 30 → ev_W l X m_Mo_count 0 0 0 (fun r G' => r = some (.int (cntk v 30)) ∧ G = G') 0 0 4 [(0, .int v), (1, .int (cntk v k)), (2, .int (nI k))] [] G := by
    intro m
    induction m with
    | zero =>
      intro k hk
      have k30 : k = 30 := by omega
      subst k30
      refine ev_iload_n d_Mo_count_4 rfl rfl ?_
      refine ev_bipush (v := 30) d_Mo_count_5 (by decide) ?_
      refine ev_icmp_ge 24 d_Mo_count_7 (by decide) (fun _ => ?_) (fun w => absurd (show (30 : Int32) ≤ nI 30 by decide) w)
      refine ev_iload_n d_Mo_count_24 rfl rfl ?_
      exact ev_iret d_Mo_count_25 rfl (⟨rfl, rfl⟩)
    | succ m ih =>
      intro k hk
      refine ev_iload_n d_Mo_count_4 rfl rfl ?_
      refine ev_bipush (v := 30) d_Mo_count_5 (by decide) ?_
      refine ev_icmp_ge 24 d_Mo_count_7 (by decide) (fun w => absurd w (nI_ge (b := 30) (by omega) (by omega))) (fun _ => ?_)
      refine ev_iload_n d_Mo_count_10 rfl rfl ?_
      refine ev_iload_n d_Mo_count_11 rfl rfl ?_
      refine ev_iload_n d_Mo_count_12 rfl rfl ?_
      refine ev_ishr d_Mo_count_13 ?_
      refine ev_iconst (v := 1) d_Mo_count_14 (by decide) ?_
      refine ev_iand d_Mo_count_15 ?_
      refine ev_iadd d_Mo_count_16 ?_
      refine ev_istore_n d_Mo_count_17 rfl (by decide) ?_
      refine ev_iinc d_Mo_count_18 rfl (by first | exact nI_1 _ | rfl) (by decide) ?_
      refine ev_goto 4 d_Mo_count_21 (by decide) ?_
      exact ih (k + 1) (by omega)
  refine ev_iconst (v := 0) d_Mo_count_0 (by decide) ?_
  refine ev_istore_n d_Mo_count_1 rfl (by decide) ?_
  refine ev_iconst (v := 0) d_Mo_count_2 (by decide) ?_
  refine ev_istore_n d_Mo_count_3 rfl (by decide) ?_
  exact loop 30 0 (by omega)
set_option maxHeartbeats 1000000 in
theorem c_Mo_least (hz : pz_ok z) (hpm : pz_m z) (hpl : mpl_ok z c M W) (h14 : I 14 = nI (zTn z)) (htd : ∀ j, j < zTn z → (td j).2 4 = zNm z j) (hG : mo_at G0 a A I J M W G) : cn_M l X m_Mo_least 1 0 0 [.ref a, .int x] G (fun (r : Option Value) (G' : pm_G) => r = some (.int (if x < 0 ∨ nI (pl_lc (zTn z) (pl_best td (zTn z)) f0 (zTn z)).1 ≤ x then 0 else (pl_lc (zTn z) (pl_best td (zTn z)) f0 (zTn z)).2 x.toNatClampNeg)) ∧ mo_at G0 a A (va_up I 0 0) J M W G') := by
  have t12 := hz.1.2.2.1
  obtain ⟨o1, o2, o3⟩ := one_sh (zTn z) (by omega)
  obtain ⟨B, hB, hbst⟩ := pl_best_bst (td := td) t12
  rw [nb_full t12 (zTn z) (Nat.le_refl _)] at hbst
  refine cn_in rfl (Nat.le_of_ble_eq_true rfl) ?_
  refine ev_aload_n d_Mo_least_0 rfl rfl ?_
  refine ev_iconst (v := 0) d_Mo_least_1 (by decide) ?_
  refine em_putI (i := 0) hG d_Mo_least_2 fo_Mo_127 rfl rfl (by decide) mv_0 (fun G hG => ?_)
  have g14 : va_up I 0 0 14 = nI (zTn z) := (by (repeat (first | apply va_up_t (h := by decide) | apply mo_w_t (h5 := by decide) (h7 := by decide) (h8 := by decide) | exact va_up_s | exact mo_w_5 | exact mo_w_7 | exact mo_w_8 | assumption)); all_goals rfl)
  -- the list of the best
  have last : ∀ (m i : Nat), i + m = zTn z → (∀ e, e < (pl_lc (zTn z) (pl_best td (zTn z)) f0 i).1 → x ≠ nI e) → ev_W l X m_Mo_least 1 0 0 (fun (r : Option Value) (G' : pm_G) => r = some (.int (if x < 0 ∨ nI (pl_lc (zTn z) (pl_best td (zTn z)) f0 (zTn z)).1 ≤ x then 0 else (pl_lc (zTn z) (pl_best td (zTn z)) f0 (zTn z)).2 x.toNatClampNeg)) ∧ mo_at G0 a A (va_up I 0 0) J M W G') 0 0 155 [(0, .ref a), (1, .int x), (2, .int (nb_all td (zTn z))), (3, .int (nI B)), (4, .int (nI (pl_lc (zTn z) (pl_best td (zTn z)) f0 i).1)), (5, .int (nI (i + 1)))] [] G := by
    intro m
    induction m with
    | zero =>
      intro i hi hx
      refine ev_iload d_Mo_least_155 rfl ?_
      refine ev_aload_n d_Mo_least_157 rfl rfl ?_
      refine em_getI (i := 14) hG d_Mo_least_158 fo_Mo_171 rfl (by (repeat (first | apply va_up_t (h := by decide) | apply mo_w_t (h5 := by decide) (h7 := by decide) (h8 := by decide) | exact va_up_s | exact mo_w_5 | exact mo_w_7 | exact mo_w_8 | assumption)); all_goals rfl) ?_
      refine ev_icmp_gt 199 d_Mo_least_161 (by decide) (fun _ => ?_) (fun w => absurd (nI_lt (by omega) (by omega)) w)
      refine ev_iconst (v := 0) d_Mo_least_199 (by decide) ?_
      refine ev_iret d_Mo_least_200 rfl ⟨?_, hG⟩
      rw [show i = zTn z by omega] at hx
      have hle := pl_lc_le (zTn z) (pl_best td (zTn z)) f0 (zTn z)
      by_cases y : x < 0 ∨ nI (pl_lc (zTn z) (pl_best td (zTn z)) f0 (zTn z)).1 ≤ x
      · rw [if_pos y]
      · obtain ⟨e, e1, e2⟩ := ix_0 y (by omega)
        exact absurd e2 (hx e e1)
    | succ m ih =>
      intro i hi hx
      have hle := pl_lc_le (zTn z) (pl_best td (zTn z)) f0 i
      have ih2 := ih (i + 1) (by omega)
      refine ev_iload d_Mo_least_155 rfl ?_
      refine ev_aload_n d_Mo_least_157 rfl rfl ?_
      refine em_getI (i := 14) hG d_Mo_least_158 fo_Mo_171 rfl (by (repeat (first | apply va_up_t (h := by decide) | apply mo_w_t (h5 := by decide) (h7 := by decide) (h8 := by decide) | exact va_up_s | exact mo_w_5 | exact mo_w_7 | exact mo_w_8 | assumption)); all_goals rfl) ?_
      refine ev_icmp_gt 199 d_Mo_least_161 (by decide) (fun w => absurd w (nI_nlt (by omega) (by omega))) (fun _ => ?_)
      refine ev_iload_n d_Mo_least_164 rfl rfl ?_
      refine ev_aload_n d_Mo_least_165 rfl rfl ?_
      refine em_getI (i := 14) hG d_Mo_least_166 fo_Mo_171 rfl (by (repeat (first | apply va_up_t (h := by decide) | apply mo_w_t (h5 := by decide) (h7 := by decide) (h8 := by decide) | exact va_up_s | exact mo_w_5 | exact mo_w_7 | exact mo_w_8 | assumption)); all_goals rfl) ?_
      refine ev_iload d_Mo_least_169 rfl ?_
      refine ev_isub d_Mo_least_171 ?_
      rw [pk_sub (show i + 1 ≤ zTn z by omega), show zTn z - (i + 1) = zTn z - 1 - i by omega]
      refine ev_ishr d_Mo_least_172 ?_
      refine ev_iconst (v := 1) d_Mo_least_173 (by decide) ?_
      refine ev_iand d_Mo_least_174 ?_
      rw [bit_shr (by omega)]
      by_cases hb : nI B &&& (1 : Int32) <<< (nI (zTn z - 1 - i) &&& 31) = 0
      · rw [if_pos hb]
        refine ev_if_ne 181 d_Mo_least_175 (by decide) (fun w => absurd rfl w) (fun _ => ?_)
        have e : pl_lc (zTn z) (pl_best td (zTn z)) f0 (i + 1) = pl_lc (zTn z) (pl_best td (zTn z)) f0 i := by rw [pl_lc, if_pos (by rw [hB]; exact hb)]
        rw [e] at ih2
        refine ev_goto 193 d_Mo_least_178 (by decide) ?_
        refine ev_iinc d_Mo_least_193 rfl (by first | exact nI_1 _ | rfl) (by decide) ?_
        refine ev_goto 155 d_Mo_least_196 (by decide) ?_
        exact ih2 hx
      · rw [if_neg hb]
        refine ev_if_ne 181 d_Mo_least_175 (by decide) (fun _ => ?_) (fun w => absurd w (by decide))
        have e : pl_lc (zTn z) (pl_best td (zTn z)) f0 (i + 1) = ((pl_lc (zTn z) (pl_best td (zTn z)) f0 i).1 + 1, upd (pl_lc (zTn z) (pl_best td (zTn z)) f0 i).2 (pl_lc (zTn z) (pl_best td (zTn z)) f0 i).1 (nI (i + 1))) := by rw [pl_lc, if_neg (by rw [hB]; exact hb)]
        refine ev_iload d_Mo_least_181 rfl ?_
        refine ev_iload_n d_Mo_least_183 rfl rfl ?_
        refine ev_icmp_ne 190 d_Mo_least_184 (by decide) (fun hxe => ?_) (fun hxe => ?_)
        · rw [e] at ih2
          refine ev_iinc d_Mo_least_190 rfl (by first | exact nI_1 _ | rfl) (by decide) ?_
          refine ev_iinc d_Mo_least_193 rfl (by first | exact nI_1 _ | rfl) (by decide) ?_
          refine ev_goto 155 d_Mo_least_196 (by decide) ?_
          refine ih2 (fun k hk => ?_)
          replace hk : k < (pl_lc (zTn z) (pl_best td (zTn z)) f0 i).1 + 1 := hk
          by_cases y : k = (pl_lc (zTn z) (pl_best td (zTn z)) f0 i).1
          · rw [y]; exact fun w => hxe w.symm
          · exact hx k (by omega)
        · refine ev_iload d_Mo_least_187 rfl ?_
          refine ev_iret d_Mo_least_189 rfl ⟨?_, hG⟩
          have hc1 : (pl_lc (zTn z) (pl_best td (zTn z)) f0 i).1 < (pl_lc (zTn z) (pl_best td (zTn z)) f0 (i + 1)).1 := by rw [e]; exact Nat.lt_succ_self _
          obtain ⟨k1, k2⟩ := pl_lc_keep (tn := zTn z) (b := pl_best td (zTn z)) (f0 := f0) (i := i + 1) (zTn z - (i + 1)) (pl_lc (zTn z) (pl_best td (zTn z)) f0 i).1 hc1
          rw [show i + 1 + (zTn z - (i + 1)) = zTn z by omega] at k1 k2
          have k3 : (pl_lc (zTn z) (pl_best td (zTn z)) f0 (i + 1)).2 (pl_lc (zTn z) (pl_best td (zTn z)) f0 i).1 = nI (i + 1) := by rw [e]; exact pk_us
          have hle2 := pl_lc_le (zTn z) (pl_best td (zTn z)) f0 (zTn z)
          rw [← hxe, if_neg (fun w => by
            rcases w with w | w
            · exact absurd w (nI_pos (by omega))
            · exact absurd w (nI_ge (by omega) (by omega))), nI_clamp (by omega), k1, k3]
  -- the search
  have srch : ∀ (m k : Nat) (o : Option Nat), k + m = 2 ^ zTn z → (match o with
      | none => ∀ e, e < k → pl_nb td (zTn z) (nI e) (zTn z) ≠ nb_all td (zTn z)
      | some b => bst (fun e => pl_nb td (zTn z) (nI e) (zTn z)) (nb_all td (zTn z)) k b) → ev_W l X m_Mo_least 1 0 0 (fun (r : Option Value) (G' : pm_G) => r = some (.int (if x < 0 ∨ nI (pl_lc (zTn z) (pl_best td (zTn z)) f0 (zTn z)).1 ≤ x then 0 else (pl_lc (zTn z) (pl_best td (zTn z)) f0 (zTn z)).2 x.toNatClampNeg)) ∧ mo_at G0 a A (va_up I 0 0) J M W G') 0 0 36 [(0, .ref a), (1, .int x), (2, .int (nb_all td (zTn z))), (3, .int (oI o)), (4, .int (nI k))] [] G := by
    intro m
    induction m with
    | zero =>
      intro k o hk ho
      refine ev_iload d_Mo_least_36 rfl ?_
      refine ev_iconst (v := 1) d_Mo_least_38 (by decide) ?_
      refine ev_aload_n d_Mo_least_39 rfl rfl ?_
      refine em_getI (i := 14) hG d_Mo_least_40 fo_Mo_171 rfl (by (repeat (first | apply va_up_t (h := by decide) | apply mo_w_t (h5 := by decide) (h7 := by decide) (h8 := by decide) | exact va_up_s | exact mo_w_5 | exact mo_w_7 | exact mo_w_8 | assumption)); all_goals rfl) ?_
      refine ev_ishl d_Mo_least_43 ?_
      rw [o1]
      refine ev_icmp_ge 149 d_Mo_least_44 (by decide) (fun _ => ?_) (fun w => absurd (nI_le (by omega) (by omega)) w)
      have hkE : k = 2 ^ zTn z := by omega
      cases o with
      | none => exact absurd hbst.2.1 (ho B (by rw [hkE]; exact hbst.1))
      | some b =>
        have hb2 : bst (fun e => pl_nb td (zTn z) (nI e) (zTn z)) (nb_all td (zTn z)) k b := ho
        rw [hkE] at hb2
        have eb : b = B := bst_1 hb2 hbst
        subst eb
        refine ev_iconst (v := 0) d_Mo_least_149 (by decide) ?_
        refine ev_istore d_Mo_least_150 (by decide) ?_
        refine ev_iconst (v := 1) d_Mo_least_152 (by decide) ?_
        refine ev_istore d_Mo_least_153 (by decide) ?_
        refine ev_keep [0, 1, 2, 3, 4, 5] ?_
        exact last (zTn z) 0 (by omega) (fun e he => absurd he (Nat.not_lt_zero _))
    | succ m ih =>
      intro k o hk ho
      have next : ∀ (o' : Option Nat) (n0 t0 : Int32), (match o' with
          | none => ∀ e, e < k + 1 → pl_nb td (zTn z) (nI e) (zTn z) ≠ nb_all td (zTn z)
          | some b => bst (fun e => pl_nb td (zTn z) (nI e) (zTn z)) (nb_all td (zTn z)) (k + 1) b) → ev_W l X m_Mo_least 1 0 0 (fun (r : Option Value) (G' : pm_G) => r = some (.int (if x < 0 ∨ nI (pl_lc (zTn z) (pl_best td (zTn z)) f0 (zTn z)).1 ≤ x then 0 else (pl_lc (zTn z) (pl_best td (zTn z)) f0 (zTn z)).2 x.toNatClampNeg)) ∧ mo_at G0 a A (va_up I 0 0) J M W G') 0 0 143 [(0, .ref a), (1, .int x), (2, .int (nb_all td (zTn z))), (3, .int (oI o')), (4, .int (nI k)), (5, .int n0), (6, .int t0)] [] G := by
        intro o' n0 t0 ho'
        refine ev_iinc d_Mo_least_143 rfl (by first | exact nI_1 _ | rfl) (by decide) ?_
        refine ev_goto 36 d_Mo_least_146 (by decide) ?_
        refine ev_keep [0, 1, 2, 3, 4] ?_
        exact ih (k + 1) o' (by omega) ho'
      have take : ∀ (n0 t0 : Int32), bst (fun e => pl_nb td (zTn z) (nI e) (zTn z)) (nb_all td (zTn z)) (k + 1) k → ev_W l X m_Mo_least 1 0 0 (fun (r : Option Value) (G' : pm_G) => r = some (.int (if x < 0 ∨ nI (pl_lc (zTn z) (pl_best td (zTn z)) f0 (zTn z)).1 ≤ x then 0 else (pl_lc (zTn z) (pl_best td (zTn z)) f0 (zTn z)).2 x.toNatClampNeg)) ∧ mo_at G0 a A (va_up I 0 0) J M W G') 0 0 140 [(0, .ref a), (1, .int x), (2, .int (nb_all td (zTn z))), (3, .int (oI o)), (4, .int (nI k)), (5, .int n0), (6, .int t0)] [] G := by
        intro n0 t0 hbk
        refine ev_iload d_Mo_least_140 rfl ?_
        refine ev_istore_n d_Mo_least_142 rfl (by decide) ?_
        exact next (some k) n0 t0 hbk
      have names : ∀ (m i : Nat), i + m = zTn z → ev_W l X m_Mo_least 1 0 0 (fun (r : Option Value) (G' : pm_G) => r = some (.int (if x < 0 ∨ nI (pl_lc (zTn z) (pl_best td (zTn z)) f0 (zTn z)).1 ≤ x then 0 else (pl_lc (zTn z) (pl_best td (zTn z)) f0 (zTn z)).2 x.toNatClampNeg)) ∧ mo_at G0 a A (va_up I 0 0) J M W G') 0 0 53 [(0, .ref a), (1, .int x), (2, .int (nb_all td (zTn z))), (3, .int (oI o)), (4, .int (nI k)), (5, .int (pl_nb td (zTn z) (nI k) i)), (6, .int (nI (i + 1)))] [] G := by
        intro m
        induction m with
        | zero =>
          intro i hi
          have hit : i = zTn z := by omega
          subst hit
          refine ev_iload d_Mo_least_53 rfl ?_
          refine ev_aload_n d_Mo_least_55 rfl rfl ?_
          refine em_getI (i := 14) hG d_Mo_least_56 fo_Mo_171 rfl (by (repeat (first | apply va_up_t (h := by decide) | apply mo_w_t (h5 := by decide) (h7 := by decide) (h8 := by decide) | exact va_up_s | exact mo_w_5 | exact mo_w_7 | exact mo_w_8 | assumption)); all_goals rfl) ?_
          refine ev_icmp_gt 100 d_Mo_least_59 (by decide) (fun _ => ?_) (fun w => absurd (nI_lt (by omega) (by omega)) w)
          refine ev_iload d_Mo_least_100 rfl ?_
          refine ev_iload_n d_Mo_least_102 rfl rfl ?_
          refine ev_icmp_ne 143 d_Mo_least_103 (by decide) (fun hn => ?_) (fun hn => ?_)
          · refine next o _ _ ?_
            cases o with
            | none =>
              intro e he
              by_cases y : e = k
              · rw [y]; exact hn
              · exact ho e (by omega)
            | some b =>
              obtain ⟨b1, b2, b3⟩ := ho
              refine ⟨by omega, b2, fun e he hw => ?_⟩
              by_cases y : e = k
              · rw [y] at hw; exact absurd hw hn
              · exact b3 e (by omega) hw
          · cases o with
            | none =>
              refine ev_iload_n d_Mo_least_106 rfl rfl ?_
              refine ev_if_lt 140 d_Mo_least_107 (by decide) (fun _ => ?_) (fun w => absurd (show oI none < 0 by decide) w)
              refine take _ _ ⟨by omega, hn, fun e he hw => ?_⟩
              by_cases y : e = k
              · rw [y]; exact Or.inr ⟨rfl, Nat.le_refl _⟩
              · exact absurd hw (ho e (by omega))
            | some b =>
              obtain ⟨b1, b2, b3⟩ := id ho
              have cb : cntk (nI b) 30 = bc_I (nI b) := cnt_bc b (by omega)
              have ck : cntk (nI k) 30 = bc_I (nI k) := cnt_bc k (by omega)
              refine ev_iload_n d_Mo_least_106 rfl rfl ?_
              refine ev_if_lt 140 d_Mo_least_107 (by decide) (fun w => absurd (show nI b < 0 from w) (nI_pos (by omega))) (fun _ => ?_)
              refine ev_iload d_Mo_least_110 rfl ?_
              refine ev_callS1 d_Mo_least_112 ck_Mo_count ml_Mo_311 sm_Mo_count (c_Mo_count) (by omega) (Nat.le_of_ble_eq_true rfl) (by omega) (by omega) ?_
              rintro _ _ ⟨rfl, rfl⟩
              refine ev_iload_n d_Mo_least_115 rfl rfl ?_
              refine ev_callS1 d_Mo_least_116 ck_Mo_count ml_Mo_311 sm_Mo_count (c_Mo_count (v := nI b)) (by omega) (Nat.le_of_ble_eq_true rfl) (by omega) (by omega) ?_
              rintro _ _ ⟨rfl, rfl⟩
              rw [cb, ck]
              refine ev_icmp_lt 140 d_Mo_least_119 (by decide) (fun hlt => ?_) (fun hlt => ?_)
              · have hlt := Int32.lt_iff_toInt_lt.mp hlt
                refine take _ _ ⟨by omega, hn, fun e he hw => ?_⟩
                by_cases y : e = k
                · rw [y]; exact Or.inr ⟨rfl, Nat.le_refl _⟩
                · have := b3 e (by omega) hw
                  exact Or.inl (by omega)
              · have hlt : ¬ (bc_I (nI k)).toInt < (bc_I (nI b)).toInt := fun w => hlt (Int32.lt_iff_toInt_lt.mpr w)
                refine ev_iload d_Mo_least_122 rfl ?_
                refine ev_callS1 d_Mo_least_124 ck_Mo_count ml_Mo_311 sm_Mo_count (c_Mo_count) (by omega) (Nat.le_of_ble_eq_true rfl) (by omega) (by omega) ?_
                rintro _ _ ⟨rfl, rfl⟩
                refine ev_iload_n d_Mo_least_127 rfl rfl ?_
                refine ev_callS1 d_Mo_least_128 ck_Mo_count ml_Mo_311 sm_Mo_count (c_Mo_count (v := nI b)) (by omega) (Nat.le_of_ble_eq_true rfl) (by omega) (by omega) ?_
                rintro _ _ ⟨rfl, rfl⟩
                rw [cb, ck]
                refine ev_icmp_ne 143 d_Mo_least_131 (by decide) (fun heq => ?_) (fun heq => ?_)
                · have heq : ¬ (bc_I (nI k)).toInt = (bc_I (nI b)).toInt := fun w => heq (Int32.toInt_inj.mp w)
                  refine next (some b) _ _ ⟨by omega, b2, fun e he hw => ?_⟩
                  by_cases y : e = k
                  · rw [y]; exact Or.inl (by omega)
                  · exact b3 e (by omega) hw
                · have heq : (bc_I (nI k)).toInt = (bc_I (nI b)).toInt := by rw [heq]
                  refine ev_iload d_Mo_least_134 rfl ?_
                  refine ev_iload_n d_Mo_least_136 rfl rfl ?_
                  refine ev_icmp_le 143 d_Mo_least_137 (by decide) (fun w => absurd (show nI k ≤ nI b from w) (nI_ge (by omega) (by omega))) (fun _ => ?_)
                  refine take _ _ ⟨by omega, hn, fun e he hw => ?_⟩
                  by_cases y : e = k
                  · rw [y]; exact Or.inr ⟨rfl, Nat.le_refl _⟩
                  · have := b3 e (by omega) hw
                    by_cases w : (bc_I (nI k)).toInt = (bc_I (nI e)).toInt
                    · exact Or.inr ⟨w, by omega⟩
                    · exact Or.inl (by omega)
        | succ m ih3 =>
          intro i hi
          have ih4 := ih3 (i + 1) (by omega)
          rw [pl_nb, htd i (by omega)] at ih4
          refine ev_iload d_Mo_least_53 rfl ?_
          refine ev_aload_n d_Mo_least_55 rfl rfl ?_
          refine em_getI (i := 14) hG d_Mo_least_56 fo_Mo_171 rfl (by (repeat (first | apply va_up_t (h := by decide) | apply mo_w_t (h5 := by decide) (h7 := by decide) (h8 := by decide) | exact va_up_s | exact mo_w_5 | exact mo_w_7 | exact mo_w_8 | assumption)); all_goals rfl) ?_
          refine ev_icmp_gt 100 d_Mo_least_59 (by decide) (fun w => absurd w (nI_nlt (by omega) (by omega))) (fun _ => ?_)
          refine ev_iload d_Mo_least_62 rfl ?_
          refine ev_aload_n d_Mo_least_64 rfl rfl ?_
          refine em_getI (i := 14) hG d_Mo_least_65 fo_Mo_171 rfl (by (repeat (first | apply va_up_t (h := by decide) | apply mo_w_t (h5 := by decide) (h7 := by decide) (h8 := by decide) | exact va_up_s | exact mo_w_5 | exact mo_w_7 | exact mo_w_8 | assumption)); all_goals rfl) ?_
          refine ev_iload d_Mo_least_68 rfl ?_
          refine ev_isub d_Mo_least_70 ?_
          rw [pk_sub (show i + 1 ≤ zTn z by omega), show zTn z - (i + 1) = zTn z - 1 - i by omega]
          refine ev_ishr d_Mo_least_71 ?_
          refine ev_iconst (v := 1) d_Mo_least_72 (by decide) ?_
          refine ev_iand d_Mo_least_73 ?_
          rw [bit_shr (by omega)]
          by_cases hb : nI k &&& (1 : Int32) <<< (nI (zTn z - 1 - i) &&& 31) = 0
          · rw [if_pos hb] at ih4 ⊢
            refine ev_iconst (v := 1) d_Mo_least_74 (by decide) ?_
            refine ev_icmp_ne 90 d_Mo_least_75 (by decide) (fun _ => ?_) (fun w => absurd w (by decide))
            refine ev_iload d_Mo_least_90 rfl ?_
            refine ev_istore d_Mo_least_92 (by decide) ?_
            refine ev_iinc d_Mo_least_94 rfl (by first | exact nI_1 _ | rfl) (by decide) ?_
            refine ev_goto 53 d_Mo_least_97 (by decide) ?_
            exact ih4
          · rw [if_neg hb] at ih4 ⊢
            refine ev_iconst (v := 1) d_Mo_least_74 (by decide) ?_
            refine ev_icmp_ne 90 d_Mo_least_75 (by decide) (fun w => absurd rfl w) (fun _ => ?_)
            refine ev_iload d_Mo_least_78 rfl ?_
            refine ev_aload_n d_Mo_least_80 rfl rfl ?_
            refine ev_iload d_Mo_least_81 rfl ?_
            refine ev_callV1 d_Mo_least_83 ck_Mo_namedBy ml_Mo_308 im_Mo_namedBy se_Mo_namedBy rfl hG.1 (c_Mo_namedBy (c := c) hz hpm (show i < zTn z by omega) hpl hG) (by omega) (Nat.le_of_ble_eq_true rfl) (by omega) (by omega) ?_
            rintro _ _ ⟨rfl, rfl⟩
            refine ev_ior d_Mo_least_86 ?_
            refine ev_goto 92 d_Mo_least_87 (by decide) ?_
            refine ev_istore d_Mo_least_92 (by decide) ?_
            refine ev_iinc d_Mo_least_94 rfl (by first | exact nI_1 _ | rfl) (by decide) ?_
            refine ev_goto 53 d_Mo_least_97 (by decide) ?_
            exact ih4
      refine ev_iload d_Mo_least_36 rfl ?_
      refine ev_iconst (v := 1) d_Mo_least_38 (by decide) ?_
      refine ev_aload_n d_Mo_least_39 rfl rfl ?_
      refine em_getI (i := 14) hG d_Mo_least_40 fo_Mo_171 rfl (by (repeat (first | apply va_up_t (h := by decide) | apply mo_w_t (h5 := by decide) (h7 := by decide) (h8 := by decide) | exact va_up_s | exact mo_w_5 | exact mo_w_7 | exact mo_w_8 | assumption)); all_goals rfl) ?_
      refine ev_ishl d_Mo_least_43 ?_
      rw [o1]
      refine ev_icmp_ge 149 d_Mo_least_44 (by decide) (fun w => absurd w (nI_ge (by omega) (by omega))) (fun _ => ?_)
      refine ev_iconst (v := 0) d_Mo_least_47 (by decide) ?_
      refine ev_istore d_Mo_least_48 (by decide) ?_
      refine ev_iconst (v := 1) d_Mo_least_50 (by decide) ?_
      refine ev_istore d_Mo_least_51 (by decide) ?_
      exact names (zTn z) 0 (by omega)
  have allm : ∀ (m i : Nat), i + m = zTn z → ev_W l X m_Mo_least 1 0 0 (fun (r : Option Value) (G' : pm_G) => r = some (.int (if x < 0 ∨ nI (pl_lc (zTn z) (pl_best td (zTn z)) f0 (zTn z)).1 ≤ x then 0 else (pl_lc (zTn z) (pl_best td (zTn z)) f0 (zTn z)).2 x.toNatClampNeg)) ∧ mo_at G0 a A (va_up I 0 0) J M W G') 0 0 9 [(0, .ref a), (1, .int x), (2, .int (nb_all td i)), (3, .int (nI (i + 1)))] [] G := by
    intro m
    induction m with
    | zero =>
      intro i hi
      have hit : i = zTn z := by omega
      subst hit
      refine ev_iload_n d_Mo_least_9 rfl rfl ?_
      refine ev_aload_n d_Mo_least_10 rfl rfl ?_
      refine em_getI (i := 14) hG d_Mo_least_11 fo_Mo_171 rfl (by (repeat (first | apply va_up_t (h := by decide) | apply mo_w_t (h5 := by decide) (h7 := by decide) (h8 := by decide) | exact va_up_s | exact mo_w_5 | exact mo_w_7 | exact mo_w_8 | assumption)); all_goals rfl) ?_
      refine ev_icmp_gt 31 d_Mo_least_14 (by decide) (fun _ => ?_) (fun w => absurd (nI_lt (by omega) (by omega)) w)
      refine ev_iconst (v := -1) d_Mo_least_31 (by decide) ?_
      refine ev_istore_n d_Mo_least_32 rfl (by decide) ?_
      refine ev_iconst (v := 0) d_Mo_least_33 (by decide) ?_
      refine ev_istore d_Mo_least_34 (by decide) ?_
      exact srch (2 ^ zTn z) 0 none (by omega) (fun e he => absurd he (Nat.not_lt_zero _))
    | succ m ih =>
      intro i hi
      have ih2 := ih (i + 1) (by omega)
      rw [nb_all, htd i (by omega)] at ih2
      refine ev_iload_n d_Mo_least_9 rfl rfl ?_
      refine ev_aload_n d_Mo_least_10 rfl rfl ?_
      refine em_getI (i := 14) hG d_Mo_least_11 fo_Mo_171 rfl (by (repeat (first | apply va_up_t (h := by decide) | apply mo_w_t (h5 := by decide) (h7 := by decide) (h8 := by decide) | exact va_up_s | exact mo_w_5 | exact mo_w_7 | exact mo_w_8 | assumption)); all_goals rfl) ?_
      refine ev_icmp_gt 31 d_Mo_least_14 (by decide) (fun w => absurd w (nI_nlt (by omega) (by omega))) (fun _ => ?_)
      refine ev_iload_n d_Mo_least_17 rfl rfl ?_
      refine ev_aload_n d_Mo_least_18 rfl rfl ?_
      refine ev_iload_n d_Mo_least_19 rfl rfl ?_
      refine ev_callV1 d_Mo_least_20 ck_Mo_namedBy ml_Mo_308 im_Mo_namedBy se_Mo_namedBy rfl hG.1 (c_Mo_namedBy (c := c) hz hpm (show i < zTn z by omega) hpl hG) (by omega) (Nat.le_of_ble_eq_true rfl) (by omega) (by omega) ?_
      rintro _ _ ⟨rfl, rfl⟩
      refine ev_ior d_Mo_least_23 ?_
      refine ev_istore_n d_Mo_least_24 rfl (by decide) ?_
      refine ev_iinc d_Mo_least_25 rfl (by first | exact nI_1 _ | rfl) (by decide) ?_
      refine ev_goto 9 d_Mo_least_28 (by decide) ?_
      exact ih2
  refine ev_iconst (v := 0) d_Mo_least_5 (by decide) ?_
  refine ev_istore_n d_Mo_least_6 rfl (by decide) ?_
  refine ev_iconst (v := 1) d_Mo_least_7 (by decide) ?_
  refine ev_istore_n d_Mo_least_8 rfl (by decide) ?_
  exact allm (zTn z) 0 (by omega)
end MLE
