/-! READER: readLines, its constructor; the plan that is read holds what a run needs -/
def l_en (sg : Nat → Nat) : Nat → Nat → Nat
  | 0, p => p
  | m + 1, p => if sg p = 10 then p else l_en sg m (p + 1)
/-- the lines from place b on, k lines are done: the first wrong line, or 0 and what was read -/
noncomputable def pz_rd (sg : Nat → Nat) (n : Nat) : Nat → Nat → Nat → pz → Nat × Option pz
  | 0, _, _, z => (0, some z)
  | m + 1, k, b, z => if b < n then (if 0 < w_c sg b (l_en sg (n - b) b) then (match pz_line sg b (l_en sg (n - b) b) (k + 1) z with
      | none => (k + 1, none)
      | some z' => pz_rd sg n m (k + 1) (l_en sg (n - b) b + 1) z') else pz_rd sg n m (k + 1) (l_en sg (n - b) b + 1) z) else (if 0 < zDp z then (k + 1, none) else (0, some z))
theorem l_en_lf {sg : Nat → Nat} : ∀ {m b i : Nat}, b ≤ i → i < b + m → (∀ p, b ≤ p → p < i → ¬ sg p = 10) → sg i = 10 → l_en sg m b = i := by
  intro m
  induction m with
  | zero => intro b i h1 h2; omega
  | succ m ih =>
    intro b i h1 h2 h3 h4
    rw [l_en]
    by_cases q : b = i
    · rw [q, if_pos h4]
    · rw [if_neg (h3 b (Nat.le_refl _) (by omega))]
      exact ih (by omega) (by omega) (fun p p1 p2 => h3 p (by omega) p2) h4
theorem l_en_no {sg : Nat → Nat} : ∀ {m b : Nat}, (∀ p, b ≤ p → p < b + m → ¬ sg p = 10) → l_en sg m b = b + m := by
  intro m
  induction m with
  | zero => intro b h; rfl
  | succ m ih =>
    intro b h
    rw [l_en, if_neg (h b (Nat.le_refl _) (by omega)), ih (fun p p1 p2 => h p (by omega) (by omega))]
    omega
def rl_Q (X : pm_X) (r sg0 wo ba ea oa pl kv tl sl le : Nat) (sf lf : Nat → Int32) (n : Nat) (y : Option Value) (G' : pm_G) (res : Nat × Option pz) : Prop :=
  y = some (.int (nI res.1)) ∧ res.1 ≤ n + 1 ∧ (match res.2 with
    | none => 0 < res.1
    | some z' => res.1 = 0 ∧ zDp z' = 0 ∧ pz_ok z' ∧ ∃ ta' sa' sna' bf' ef' of' vk' c', rd_at X G' r sg0 wo ba ea oa pl kv tl sl le ta' sa' sna' bf' ef' sf of' lf vk' c' z')
section RX
variable {l : Launch} {X : pm_X} {G : pm_G} {r sg0 wo ba ea oa pl kv tl sl le n : Nat} {ta sa sna : Nat → Nat} {bf ef sf of lf : Nat → Int32} {vk : Nat → Int64} {sg : Nat → Nat} {z : pz} {c : Nat}
theorem rd_at.ws {G' : pm_G} {bf' ef' : Nat → Int32} {c' : Nat} (h : rd_at X G r sg0 wo ba ea oa pl kv tl sl le ta sa sna bf ef sf of lf vk c z) (hf : pm_fr (fun c => 31 ≤ c ∧ c ≤ 33) G G') (hw : wd_at G' wo sg0 ba ea c' bf' ef') : rd_at X G' r sg0 wo ba ea oa pl kv tl sl le ta sa sna bf' ef' sf of lf vk c' z := by
  obtain ⟨h1, h2, h3, h4, h5, h6, h7, h8, h9, h10, h11, h12, h13, h14⟩ := h
  exact ⟨hf _ _ _ h1 (by omega), hw, hf _ _ _ h3 (by omega), h4, hf _ _ _ h5 (by omega), hf _ _ _ h6 (by omega), hf _ _ _ h7 (by omega), h8, h9.fr hf (by omega) (by omega), h10.fr hf (fun i hi => by omega), h11.fr hf (by omega) (by omega), h12.fr hf (fun i hi => by omega), fun i hi => hf _ _ _ (h13 i hi) (by omega), hf _ _ _ h14 (by omega)⟩
set_option maxHeartbeats 2000000 in
theorem c_Rd_readLines (h : rd_at X G r sg0 wo ba ea oa pl kv tl sl le ta sa sna bf ef sf of lf vk c z) (hsg : sg_ok sg sf n) (hn : n ≤ 4000) (hz : pz_ok z) : cn_M l X m_Rd_readLines 9 (4 * n) (1829 * n) [.ref r, .int (nI n)] G (fun y G' => pm_fr rd_C G G' ∧ rl_Q X r sg0 wo ba ea oa pl kv tl sl le sf lf n y G' (pz_rd sg n (n + 1) 0 0 z)) := by
  refine cn_in rfl (Nat.le_of_ble_eq_true rfl) ?_
  have loop : ∀ (m i k b K N fu : Nat) (ta sa sna : Nat → Nat) (bf ef of : Nat → Int32) (vk : Nat → Int64) (c : Nat) (z : pz) (G1 : pm_G), i + m = n → b ≤ i → (i = n → b = n) → k ≤ b → K ≤ 4 * b → N ≤ 1829 * b → n - b < fu → (∀ p, b ≤ p → p < i → ¬ sg p = 10) → pm_fr rd_C G G1 → pz_ok z → rd_at X G1 r sg0 wo ba ea oa pl kv tl sl le ta sa sna bf ef sf of lf vk c z →
      ev_W l X m_Rd_readLines 9 (4 * n) (1829 * n) (fun y G' => pm_fr rd_C G G' ∧ rl_Q X r sg0 wo ba ea oa pl kv tl sl le sf lf n y G' (pz_rd sg n fu k b z)) K N 7 [(0, .ref r), (1, .int (nI n)), (2, .int (nI k)), (3, .int (nI b)), (4, .int (nI i))] [] G1 := by
    intro m
    induction m with
    | zero =>
      intro i k b K N fu ta sa sna bf ef of vk c z G1 hi hbi hin hkb hK hN hfu hno hf hz h
      have hb : b = n := hin (by omega)
      obtain ⟨h1, -⟩ := id h
      obtain ⟨fu', rfl⟩ : ∃ x, fu = x + 1 := ⟨fu - 1, by omega⟩
      have ep : pz_rd sg n (fu' + 1) k b z = if 0 < zDp z then (k + 1, none) else (0, some z) := by rw [pz_rd, if_neg (by omega)]
      have hd8 := hz.1.2.2.2.2.2.2.2.2.1
      rw [ep]
      refine ev_iload d_Rd_readLines_7 rfl ?_
      refine ev_iload_n d_Rd_readLines_9 rfl rfl ?_
      refine ev_icmp_ge 111 d_Rd_readLines_10 (by decide) (fun hc => ?_) (fun hc => ?_)
      · refine ev_aload_n d_Rd_readLines_111 rfl rfl ?_
        refine ev_get d_Rd_readLines_112 fo_Rd_44 (by first | assumption | exact pm_up_eq | (refine pm_up_ne (by first | assumption | (apply Ne.symm; assumption) | exact pm_neK (G := G) (by assumption) (by assumption) (by omega) | exact pm_neOA (G := G) (by assumption) (by assumption) | exact (pm_neOA (G := G) (by assumption) (by assumption)).symm | exact pm_neN (G := G) (by assumption) (by assumption) | exact (pm_neN (G := G) (by assumption) (by assumption)).symm) ?_; first | assumption | exact pm_up_eq | (refine pm_up_ne (by first | assumption | (apply Ne.symm; assumption) | exact pm_neK (G := G) (by assumption) (by assumption) (by omega) | exact pm_neOA (G := G) (by assumption) (by assumption) | exact (pm_neOA (G := G) (by assumption) (by assumption)).symm | exact pm_neN (G := G) (by assumption) (by assumption) | exact (pm_neN (G := G) (by assumption) (by assumption)).symm) ?_; first | assumption | exact pm_up_eq | (refine pm_up_ne (by first | assumption | (apply Ne.symm; assumption) | exact pm_neK (G := G) (by assumption) (by assumption) (by omega) | exact pm_neOA (G := G) (by assumption) (by assumption) | exact (pm_neOA (G := G) (by assumption) (by assumption)).symm | exact pm_neN (G := G) (by assumption) (by assumption) | exact (pm_neN (G := G) (by assumption) (by assumption)).symm) ?_; first | assumption | exact pm_up_eq | (refine pm_up_ne (by first | assumption | (apply Ne.symm; assumption) | exact pm_neK (G := G) (by assumption) (by assumption) (by omega) | exact pm_neOA (G := G) (by assumption) (by assumption) | exact (pm_neOA (G := G) (by assumption) (by assumption)).symm | exact pm_neN (G := G) (by assumption) (by assumption) | exact (pm_neN (G := G) (by assumption) (by assumption)).symm) ?_; first | assumption | exact pm_up_eq | (refine pm_up_ne (by first | assumption | (apply Ne.symm; assumption) | exact pm_neK (G := G) (by assumption) (by assumption) (by omega) | exact pm_neOA (G := G) (by assumption) (by assumption) | exact (pm_neOA (G := G) (by assumption) (by assumption)).symm | exact pm_neN (G := G) (by assumption) (by assumption) | exact (pm_neN (G := G) (by assumption) (by assumption)).symm) ?_; first | assumption | exact pm_up_eq)))))) rfl ?_
        refine ev_if_le 124 d_Rd_readLines_115 (by decide) (fun hd => ?_) (fun hd => ?_)
        · have d0 : ¬ 0 < zDp z := fun q => absurd hd (nI_nle q (by omega))
          rw [if_neg d0]
          refine ev_iconst (v := 0) d_Rd_readLines_124 (by decide) ?_
          exact ev_iret d_Rd_readLines_125 rfl (⟨hf, rfl, by show 0 ≤ n + 1; omega, rfl, by omega, hz, _, _, _, _, _, _, _, _, h⟩)
        · have d0 : 0 < zDp z := by
            rcases Nat.eq_zero_or_pos (zDp z) with q | q
            · rw [q] at hd; exact absurd (by decide) hd
            · exact q
          rw [if_pos d0]
          refine ev_iload_n d_Rd_readLines_118 rfl rfl ?_
          refine ev_iconst (v := 1) d_Rd_readLines_119 (by decide) ?_
          refine ev_iadd d_Rd_readLines_120 ?_
          rw [nI_1]
          refine ev_goto 125 d_Rd_readLines_121 (by decide) ?_
          exact ev_iret d_Rd_readLines_125 rfl (⟨hf, rfl, by show k + 1 ≤ n + 1; omega, by show 0 < k + 1; omega⟩)
      · exact absurd (nI_le (by omega) (by omega)) hc
    | succ m ih =>
      intro i k b K N fu ta sa sna bf ef of vk c z G1 hi hbi hin hkb hK hN hfu hno hf hz h
      obtain ⟨h1, h2, h3, h4, h5, -⟩ := id h
      have w1 := h2.1
      obtain ⟨s1, s2⟩ := hsg i (by omega)
      obtain ⟨fu', rfl⟩ : ∃ x, fu = x + 1 := ⟨fu - 1, by omega⟩
      refine ev_iload d_Rd_readLines_7 rfl ?_
      refine ev_iload_n d_Rd_readLines_9 rfl rfl ?_
      refine ev_icmp_ge 111 d_Rd_readLines_10 (by decide) (fun hc => ?_) (fun hc => ?_)
      · exact absurd hc (nI_ge (by omega) (by omega))
      · refine ev_iload d_Rd_readLines_13 rfl ?_
        refine ev_aload_n d_Rd_readLines_15 rfl rfl ?_
        refine ev_get d_Rd_readLines_16 fo_Rd_15 (by first | assumption | exact pm_up_eq | (refine pm_up_ne (by first | assumption | (apply Ne.symm; assumption) | exact pm_neK (G := G) (by assumption) (by assumption) (by omega) | exact pm_neOA (G := G) (by assumption) (by assumption) | exact (pm_neOA (G := G) (by assumption) (by assumption)).symm | exact pm_neN (G := G) (by assumption) (by assumption) | exact (pm_neN (G := G) (by assumption) (by assumption)).symm) ?_; first | assumption | exact pm_up_eq | (refine pm_up_ne (by first | assumption | (apply Ne.symm; assumption) | exact pm_neK (G := G) (by assumption) (by assumption) (by omega) | exact pm_neOA (G := G) (by assumption) (by assumption) | exact (pm_neOA (G := G) (by assumption) (by assumption)).symm | exact pm_neN (G := G) (by assumption) (by assumption) | exact (pm_neN (G := G) (by assumption) (by assumption)).symm) ?_; first | assumption | exact pm_up_eq | (refine pm_up_ne (by first | assumption | (apply Ne.symm; assumption) | exact pm_neK (G := G) (by assumption) (by assumption) (by omega) | exact pm_neOA (G := G) (by assumption) (by assumption) | exact (pm_neOA (G := G) (by assumption) (by assumption)).symm | exact pm_neN (G := G) (by assumption) (by assumption) | exact (pm_neN (G := G) (by assumption) (by assumption)).symm) ?_; first | assumption | exact pm_up_eq | (refine pm_up_ne (by first | assumption | (apply Ne.symm; assumption) | exact pm_neK (G := G) (by assumption) (by assumption) (by omega) | exact pm_neOA (G := G) (by assumption) (by assumption) | exact (pm_neOA (G := G) (by assumption) (by assumption)).symm | exact pm_neN (G := G) (by assumption) (by assumption) | exact (pm_neN (G := G) (by assumption) (by assumption)).symm) ?_; first | assumption | exact pm_up_eq | (refine pm_up_ne (by first | assumption | (apply Ne.symm; assumption) | exact pm_neK (G := G) (by assumption) (by assumption) (by omega) | exact pm_neOA (G := G) (by assumption) (by assumption) | exact (pm_neOA (G := G) (by assumption) (by assumption)).symm | exact pm_neN (G := G) (by assumption) (by assumption) | exact (pm_neN (G := G) (by assumption) (by assumption)).symm) ?_; first | assumption | exact pm_up_eq)))))) rfl ?_
        refine ev_alen d_Rd_readLines_19 rfl (by first | assumption | exact pm_up_eq | (refine pm_up_ne (by first | assumption | (apply Ne.symm; assumption) | exact pm_neK (G := G) (by assumption) (by assumption) (by omega) | exact pm_neOA (G := G) (by assumption) (by assumption) | exact (pm_neOA (G := G) (by assumption) (by assumption)).symm | exact pm_neN (G := G) (by assumption) (by assumption) | exact (pm_neN (G := G) (by assumption) (by assumption)).symm) ?_; first | assumption | exact pm_up_eq | (refine pm_up_ne (by first | assumption | (apply Ne.symm; assumption) | exact pm_neK (G := G) (by assumption) (by assumption) (by omega) | exact pm_neOA (G := G) (by assumption) (by assumption) | exact (pm_neOA (G := G) (by assumption) (by assumption)).symm | exact pm_neN (G := G) (by assumption) (by assumption) | exact (pm_neN (G := G) (by assumption) (by assumption)).symm) ?_; first | assumption | exact pm_up_eq | (refine pm_up_ne (by first | assumption | (apply Ne.symm; assumption) | exact pm_neK (G := G) (by assumption) (by assumption) (by omega) | exact pm_neOA (G := G) (by assumption) (by assumption) | exact (pm_neOA (G := G) (by assumption) (by assumption)).symm | exact pm_neN (G := G) (by assumption) (by assumption) | exact (pm_neN (G := G) (by assumption) (by assumption)).symm) ?_; first | assumption | exact pm_up_eq | (refine pm_up_ne (by first | assumption | (apply Ne.symm; assumption) | exact pm_neK (G := G) (by assumption) (by assumption) (by omega) | exact pm_neOA (G := G) (by assumption) (by assumption) | exact (pm_neOA (G := G) (by assumption) (by assumption)).symm | exact pm_neN (G := G) (by assumption) (by assumption) | exact (pm_neN (G := G) (by assumption) (by assumption)).symm) ?_; first | assumption | exact pm_up_eq | (refine pm_up_ne (by first | assumption | (apply Ne.symm; assumption) | exact pm_neK (G := G) (by assumption) (by assumption) (by omega) | exact pm_neOA (G := G) (by assumption) (by assumption) | exact (pm_neOA (G := G) (by assumption) (by assumption)).symm | exact pm_neN (G := G) (by assumption) (by assumption) | exact (pm_neN (G := G) (by assumption) (by assumption)).symm) ?_; first | assumption | exact pm_up_eq)))))) ?_
        refine ev_icmp_ge 111 d_Rd_readLines_20 (by decide) (fun hd => ?_) (fun hd => ?_)
        · exact absurd hd (nI_ge (b := 4000) (by omega) (by omega))
        · -- a line's end: e is where it ends
          have line : ∀ (e : Nat) (en : Int32), b ≤ e → e ≤ i + 1 → l_en sg (n - b) b = e → (e = i ∧ en = 1 ∨ e = i + 1 ∧ i + 1 = n ∧ en = 0) → (i + 1 = n ∨ e = i) → ev_W l X m_Rd_readLines 9 (4 * n) (1829 * n) (fun y G' => pm_fr rd_C G G' ∧ rl_Q X r sg0 wo ba ea oa pl kv tl sl le sf lf n y G' (pz_rd sg n (fu' + 1) k b z)) K N 77 [(0, .ref r), (1, .int (nI n)), (2, .int (nI (k + 1))), (3, .int (nI b)), (4, .int (nI i)), (5, .int en)] [.int (nI e), .int (nI b), .ref wo] G1 := by
            intro e en hbe hei hle hen hlast
            have ehn : e ≤ n := by omega
            have ep : pz_rd sg n (fu' + 1) k b z = if 0 < w_c sg b e then (match pz_line sg b e (k + 1) z with
                | none => (k + 1, none)
                | some z' => pz_rd sg n fu' (k + 1) (e + 1) z') else pz_rd sg n fu' (k + 1) (e + 1) z := by rw [pz_rd, if_pos (by omega), hle]
            -- behind the end of the line e, e + 1 may stand for n + 1
            have ee : pz_rd sg n fu' (k + 1) (e + 1) = pz_rd sg n fu' (k + 1) (i + 1) := by
              rcases hen with ⟨q, -⟩ | ⟨q, q2, -⟩
              · rw [q]
              · funext z
                obtain ⟨f2, rfl⟩ : ∃ x, fu' = x + 1 := ⟨fu' - 1, by omega⟩
                rw [pz_rd, pz_rd, if_neg (show ¬ e + 1 < n by omega), if_neg (show ¬ i + 1 < n by omega)]
            rw [ep, ee]
            refine ev_callV2 d_Rd_readLines_77 ck_Wd_split ml_Rd_32 im_Wd_split se_Wd_split rfl (by first | assumption | exact pm_up_eq | (refine pm_up_ne (by first | assumption | (apply Ne.symm; assumption) | exact pm_neK (G := G) (by assumption) (by assumption) (by omega) | exact pm_neOA (G := G) (by assumption) (by assumption) | exact (pm_neOA (G := G) (by assumption) (by assumption)).symm | exact pm_neN (G := G) (by assumption) (by assumption) | exact (pm_neN (G := G) (by assumption) (by assumption)).symm) ?_; first | assumption | exact pm_up_eq | (refine pm_up_ne (by first | assumption | (apply Ne.symm; assumption) | exact pm_neK (G := G) (by assumption) (by assumption) (by omega) | exact pm_neOA (G := G) (by assumption) (by assumption) | exact (pm_neOA (G := G) (by assumption) (by assumption)).symm | exact pm_neN (G := G) (by assumption) (by assumption) | exact (pm_neN (G := G) (by assumption) (by assumption)).symm) ?_; first | assumption | exact pm_up_eq | (refine pm_up_ne (by first | assumption | (apply Ne.symm; assumption) | exact pm_neK (G := G) (by assumption) (by assumption) (by omega) | exact pm_neOA (G := G) (by assumption) (by assumption) | exact (pm_neOA (G := G) (by assumption) (by assumption)).symm | exact pm_neN (G := G) (by assumption) (by assumption) | exact (pm_neN (G := G) (by assumption) (by assumption)).symm) ?_; first | assumption | exact pm_up_eq | (refine pm_up_ne (by first | assumption | (apply Ne.symm; assumption) | exact pm_neK (G := G) (by assumption) (by assumption) (by omega) | exact pm_neOA (G := G) (by assumption) (by assumption) | exact (pm_neOA (G := G) (by assumption) (by assumption)).symm | exact pm_neN (G := G) (by assumption) (by assumption) | exact (pm_neN (G := G) (by assumption) (by assumption)).symm) ?_; first | assumption | exact pm_up_eq | (refine pm_up_ne (by first | assumption | (apply Ne.symm; assumption) | exact pm_neK (G := G) (by assumption) (by assumption) (by omega) | exact pm_neOA (G := G) (by assumption) (by assumption) | exact (pm_neOA (G := G) (by assumption) (by assumption)).symm | exact pm_neN (G := G) (by assumption) (by assumption) | exact (pm_neN (G := G) (by assumption) (by assumption)).symm) ?_; first | assumption | exact pm_up_eq)))))) (c_Wd_split (s := b) (e := e) h2 h5 (fun j hj => hsg j (by omega)) hbe (by omega)) (by omega) (Nat.le_of_ble_eq_true rfl) (by omega) (by omega) ?_
            rintro _ G2 ⟨rfl, f2, bf', ef', hw2, hok⟩
            have r2 := h.ws f2 hw2
            obtain ⟨j1, j2, -⟩ := id r2
            have jw := j2.1
            have fr2 : pm_fr rd_C G G2 := hf.tr (f2.mono (fun c q => Or.inl (by omega)))
            have hc13 := (w_c_is (sg := sg) (s := b) (e := e)).1
            refine ev_iload d_Rd_readLines_80 rfl ?_
            refine ev_iconst (v := 1) d_Rd_readLines_82 (by decide) ?_
            refine ev_iadd d_Rd_readLines_83 ?_
            rw [nI_1]
            refine ev_istore_n d_Rd_readLines_84 rfl (by decide) ?_
            refine ev_aload_n d_Rd_readLines_85 rfl rfl ?_
            refine ev_get d_Rd_readLines_86 fo_Rd_24 (by first | assumption | exact pm_up_eq | (refine pm_up_ne (by first | assumption | (apply Ne.symm; assumption) | exact pm_neK (G := G) (by assumption) (by assumption) (by omega) | exact pm_neOA (G := G) (by assumption) (by assumption) | exact (pm_neOA (G := G) (by assumption) (by assumption)).symm | exact pm_neN (G := G) (by assumption) (by assumption) | exact (pm_neN (G := G) (by assumption) (by assumption)).symm) ?_; first | assumption | exact pm_up_eq | (refine pm_up_ne (by first | assumption | (apply Ne.symm; assumption) | exact pm_neK (G := G) (by assumption) (by assumption) (by omega) | exact pm_neOA (G := G) (by assumption) (by assumption) | exact (pm_neOA (G := G) (by assumption) (by assumption)).symm | exact pm_neN (G := G) (by assumption) (by assumption) | exact (pm_neN (G := G) (by assumption) (by assumption)).symm) ?_; first | assumption | exact pm_up_eq | (refine pm_up_ne (by first | assumption | (apply Ne.symm; assumption) | exact pm_neK (G := G) (by assumption) (by assumption) (by omega) | exact pm_neOA (G := G) (by assumption) (by assumption) | exact (pm_neOA (G := G) (by assumption) (by assumption)).symm | exact pm_neN (G := G) (by assumption) (by assumption) | exact (pm_neN (G := G) (by assumption) (by assumption)).symm) ?_; first | assumption | exact pm_up_eq | (refine pm_up_ne (by first | assumption | (apply Ne.symm; assumption) | exact pm_neK (G := G) (by assumption) (by assumption) (by omega) | exact pm_neOA (G := G) (by assumption) (by assumption) | exact (pm_neOA (G := G) (by assumption) (by assumption)).symm | exact pm_neN (G := G) (by assumption) (by assumption) | exact (pm_neN (G := G) (by assumption) (by assumption)).symm) ?_; first | assumption | exact pm_up_eq | (refine pm_up_ne (by first | assumption | (apply Ne.symm; assumption) | exact pm_neK (G := G) (by assumption) (by assumption) (by omega) | exact pm_neOA (G := G) (by assumption) (by assumption) | exact (pm_neOA (G := G) (by assumption) (by assumption)).symm | exact pm_neN (G := G) (by assumption) (by assumption) | exact (pm_neN (G := G) (by assumption) (by assumption)).symm) ?_; first | assumption | exact pm_up_eq)))))) rfl ?_
            refine ev_get d_Rd_readLines_89 fo_Rd_36 (by first | assumption | exact pm_up_eq | (refine pm_up_ne (by first | assumption | (apply Ne.symm; assumption) | exact pm_neK (G := G) (by assumption) (by assumption) (by omega) | exact pm_neOA (G := G) (by assumption) (by assumption) | exact (pm_neOA (G := G) (by assumption) (by assumption)).symm | exact pm_neN (G := G) (by assumption) (by assumption) | exact (pm_neN (G := G) (by assumption) (by assumption)).symm) ?_; first | assumption | exact pm_up_eq | (refine pm_up_ne (by first | assumption | (apply Ne.symm; assumption) | exact pm_neK (G := G) (by assumption) (by assumption) (by omega) | exact pm_neOA (G := G) (by assumption) (by assumption) | exact (pm_neOA (G := G) (by assumption) (by assumption)).symm | exact pm_neN (G := G) (by assumption) (by assumption) | exact (pm_neN (G := G) (by assumption) (by assumption)).symm) ?_; first | assumption | exact pm_up_eq | (refine pm_up_ne (by first | assumption | (apply Ne.symm; assumption) | exact pm_neK (G := G) (by assumption) (by assumption) (by omega) | exact pm_neOA (G := G) (by assumption) (by assumption) | exact (pm_neOA (G := G) (by assumption) (by assumption)).symm | exact pm_neN (G := G) (by assumption) (by assumption) | exact (pm_neN (G := G) (by assumption) (by assumption)).symm) ?_; first | assumption | exact pm_up_eq | (refine pm_up_ne (by first | assumption | (apply Ne.symm; assumption) | exact pm_neK (G := G) (by assumption) (by assumption) (by omega) | exact pm_neOA (G := G) (by assumption) (by assumption) | exact (pm_neOA (G := G) (by assumption) (by assumption)).symm | exact pm_neN (G := G) (by assumption) (by assumption) | exact (pm_neN (G := G) (by assumption) (by assumption)).symm) ?_; first | assumption | exact pm_up_eq | (refine pm_up_ne (by first | assumption | (apply Ne.symm; assumption) | exact pm_neK (G := G) (by assumption) (by assumption) (by omega) | exact pm_neOA (G := G) (by assumption) (by assumption) | exact (pm_neOA (G := G) (by assumption) (by assumption)).symm | exact pm_neN (G := G) (by assumption) (by assumption) | exact (pm_neN (G := G) (by assumption) (by assumption)).symm) ?_; first | assumption | exact pm_up_eq)))))) rfl ?_
            refine ev_if_le 105 d_Rd_readLines_92 (by decide) (fun hx => ?_) (fun hx => ?_)
            · have c0 : ¬ 0 < w_c sg b e := fun q => absurd hx (nI_nle q (by omega))
              rw [if_neg c0]
              refine ev_iinc d_Rd_readLines_105 rfl (by first | exact nI_1 _ | rfl) (by decide) ?_
              refine ev_goto 7 d_Rd_readLines_108 (by decide) ?_
              refine ev_keep [0, 1, 2, 3, 4] ?_
              exact ih (i + 1) (k + 1) (i + 1) _ _ fu' _ _ _ _ _ _ _ _ _ _ (by omega) (by omega) (fun q => by omega) (by omega) (by omega) (by omega) (by omega) (fun p p1 p2 => by omega) fr2 hz r2
            · have c0 : 0 < w_c sg b e := by
                rcases Nat.eq_zero_or_pos (w_c sg b e) with q | q
                · rw [q] at hx; exact absurd (by decide) hx
                · exact q
              rw [if_pos c0]
              refine ev_aload_n d_Rd_readLines_95 rfl rfl ?_
              refine ev_iload_n d_Rd_readLines_96 rfl rfl ?_
              refine ev_callV1 d_Rd_readLines_97 ck_Rd_takeLine ml_Rd_40 im_Rd_takeLine se_Rd_takeLine rfl (by first | assumption | exact pm_up_eq | (refine pm_up_ne (by first | assumption | (apply Ne.symm; assumption) | exact pm_neK (G := G) (by assumption) (by assumption) (by omega) | exact pm_neOA (G := G) (by assumption) (by assumption) | exact (pm_neOA (G := G) (by assumption) (by assumption)).symm | exact pm_neN (G := G) (by assumption) (by assumption) | exact (pm_neN (G := G) (by assumption) (by assumption)).symm) ?_; first | assumption | exact pm_up_eq | (refine pm_up_ne (by first | assumption | (apply Ne.symm; assumption) | exact pm_neK (G := G) (by assumption) (by assumption) (by omega) | exact pm_neOA (G := G) (by assumption) (by assumption) | exact (pm_neOA (G := G) (by assumption) (by assumption)).symm | exact pm_neN (G := G) (by assumption) (by assumption) | exact (pm_neN (G := G) (by assumption) (by assumption)).symm) ?_; first | assumption | exact pm_up_eq | (refine pm_up_ne (by first | assumption | (apply Ne.symm; assumption) | exact pm_neK (G := G) (by assumption) (by assumption) (by omega) | exact pm_neOA (G := G) (by assumption) (by assumption) | exact (pm_neOA (G := G) (by assumption) (by assumption)).symm | exact pm_neN (G := G) (by assumption) (by assumption) | exact (pm_neN (G := G) (by assumption) (by assumption)).symm) ?_; first | assumption | exact pm_up_eq | (refine pm_up_ne (by first | assumption | (apply Ne.symm; assumption) | exact pm_neK (G := G) (by assumption) (by assumption) (by omega) | exact pm_neOA (G := G) (by assumption) (by assumption) | exact (pm_neOA (G := G) (by assumption) (by assumption)).symm | exact pm_neN (G := G) (by assumption) (by assumption) | exact (pm_neN (G := G) (by assumption) (by assumption)).symm) ?_; first | assumption | exact pm_up_eq | (refine pm_up_ne (by first | assumption | (apply Ne.symm; assumption) | exact pm_neK (G := G) (by assumption) (by assumption) (by omega) | exact pm_neOA (G := G) (by assumption) (by assumption) | exact (pm_neOA (G := G) (by assumption) (by assumption)).symm | exact pm_neN (G := G) (by assumption) (by assumption) | exact (pm_neN (G := G) (by assumption) (by assumption)).symm) ?_; first | assumption | exact pm_up_eq)))))) (c_Rd_takeLine (n := k + 1) r2 hok (fun j hj => hsg j (by omega)) hbe (by omega) hz) (by omega) (Nat.le_of_ble_eq_true rfl) (by omega) (by omega) ?_
              rintro y G3 ⟨f3, q3⟩
              cases hl : pz_line sg b e (k + 1) z with
              | none =>
                rw [hl] at q3
                have hy : y = some (.int 0) := q3
                subst hy
                refine ev_if_ne 105 d_Rd_readLines_100 (by decide) (fun q => absurd rfl q) (fun _ => ?_)
                refine ev_iload_n d_Rd_readLines_103 rfl rfl ?_
                exact ev_iret d_Rd_readLines_104 rfl (⟨fr2.tr f3, rfl, by show k + 1 ≤ n + 1; omega, by show 0 < k + 1; omega⟩)
              | some z' =>
                rw [hl] at q3
                obtain ⟨hy, ta', sa', sna', of', vk', r3⟩ := q3
                subst hy
                refine ev_if_ne 105 d_Rd_readLines_100 (by decide) (fun _ => ?_) (fun q => absurd q (by decide))
                refine ev_iinc d_Rd_readLines_105 rfl (by first | exact nI_1 _ | rfl) (by decide) ?_
                refine ev_goto 7 d_Rd_readLines_108 (by decide) ?_
                refine ev_keep [0, 1, 2, 3, 4] ?_
                exact ih (i + 1) (k + 1) (i + 1) _ _ fu' _ _ _ _ _ _ _ _ _ _ (by omega) (by omega) (fun q => by omega) (by omega) (by omega) (by omega) (by omega) (fun p p1 p2 => by omega) (fr2.tr f3) (pz_line_ok hz hl) r3
          refine ev_aload_n d_Rd_readLines_23 rfl rfl ?_
          refine ev_get d_Rd_readLines_24 fo_Rd_15 (by first | assumption | exact pm_up_eq | (refine pm_up_ne (by first | assumption | (apply Ne.symm; assumption) | exact pm_neK (G := G) (by assumption) (by assumption) (by omega) | exact pm_neOA (G := G) (by assumption) (by assumption) | exact (pm_neOA (G := G) (by assumption) (by assumption)).symm | exact pm_neN (G := G) (by assumption) (by assumption) | exact (pm_neN (G := G) (by assumption) (by assumption)).symm) ?_; first | assumption | exact pm_up_eq | (refine pm_up_ne (by first | assumption | (apply Ne.symm; assumption) | exact pm_neK (G := G) (by assumption) (by assumption) (by omega) | exact pm_neOA (G := G) (by assumption) (by assumption) | exact (pm_neOA (G := G) (by assumption) (by assumption)).symm | exact pm_neN (G := G) (by assumption) (by assumption) | exact (pm_neN (G := G) (by assumption) (by assumption)).symm) ?_; first | assumption | exact pm_up_eq | (refine pm_up_ne (by first | assumption | (apply Ne.symm; assumption) | exact pm_neK (G := G) (by assumption) (by assumption) (by omega) | exact pm_neOA (G := G) (by assumption) (by assumption) | exact (pm_neOA (G := G) (by assumption) (by assumption)).symm | exact pm_neN (G := G) (by assumption) (by assumption) | exact (pm_neN (G := G) (by assumption) (by assumption)).symm) ?_; first | assumption | exact pm_up_eq | (refine pm_up_ne (by first | assumption | (apply Ne.symm; assumption) | exact pm_neK (G := G) (by assumption) (by assumption) (by omega) | exact pm_neOA (G := G) (by assumption) (by assumption) | exact (pm_neOA (G := G) (by assumption) (by assumption)).symm | exact pm_neN (G := G) (by assumption) (by assumption) | exact (pm_neN (G := G) (by assumption) (by assumption)).symm) ?_; first | assumption | exact pm_up_eq | (refine pm_up_ne (by first | assumption | (apply Ne.symm; assumption) | exact pm_neK (G := G) (by assumption) (by assumption) (by omega) | exact pm_neOA (G := G) (by assumption) (by assumption) | exact (pm_neOA (G := G) (by assumption) (by assumption)).symm | exact pm_neN (G := G) (by assumption) (by assumption) | exact (pm_neN (G := G) (by assumption) (by assumption)).symm) ?_; first | assumption | exact pm_up_eq)))))) rfl ?_
          refine ev_iload d_Rd_readLines_27 rfl ?_
          refine ev_bald d_Rd_readLines_29 rfl (by first | assumption | exact pm_up_eq | (refine pm_up_ne (by first | assumption | (apply Ne.symm; assumption) | exact pm_neK (G := G) (by assumption) (by assumption) (by omega) | exact pm_neOA (G := G) (by assumption) (by assumption) | exact (pm_neOA (G := G) (by assumption) (by assumption)).symm | exact pm_neN (G := G) (by assumption) (by assumption) | exact (pm_neN (G := G) (by assumption) (by assumption)).symm) ?_; first | assumption | exact pm_up_eq | (refine pm_up_ne (by first | assumption | (apply Ne.symm; assumption) | exact pm_neK (G := G) (by assumption) (by assumption) (by omega) | exact pm_neOA (G := G) (by assumption) (by assumption) | exact (pm_neOA (G := G) (by assumption) (by assumption)).symm | exact pm_neN (G := G) (by assumption) (by assumption) | exact (pm_neN (G := G) (by assumption) (by assumption)).symm) ?_; first | assumption | exact pm_up_eq | (refine pm_up_ne (by first | assumption | (apply Ne.symm; assumption) | exact pm_neK (G := G) (by assumption) (by assumption) (by omega) | exact pm_neOA (G := G) (by assumption) (by assumption) | exact (pm_neOA (G := G) (by assumption) (by assumption)).symm | exact pm_neN (G := G) (by assumption) (by assumption) | exact (pm_neN (G := G) (by assumption) (by assumption)).symm) ?_; first | assumption | exact pm_up_eq | (refine pm_up_ne (by first | assumption | (apply Ne.symm; assumption) | exact pm_neK (G := G) (by assumption) (by assumption) (by omega) | exact pm_neOA (G := G) (by assumption) (by assumption) | exact (pm_neOA (G := G) (by assumption) (by assumption)).symm | exact pm_neN (G := G) (by assumption) (by assumption) | exact (pm_neN (G := G) (by assumption) (by assumption)).symm) ?_; first | assumption | exact pm_up_eq | (refine pm_up_ne (by first | assumption | (apply Ne.symm; assumption) | exact pm_neK (G := G) (by assumption) (by assumption) (by omega) | exact pm_neOA (G := G) (by assumption) (by assumption) | exact (pm_neOA (G := G) (by assumption) (by assumption)).symm | exact pm_neN (G := G) (by assumption) (by assumption) | exact (pm_neN (G := G) (by assumption) (by assumption)).symm) ?_; first | assumption | exact pm_up_eq)))))) (by first | assumption | exact vp_in_nI (by omega) (by omega)) ?_
          refine ev_bipush (v := 10) d_Rd_readLines_30 (by decide) ?_
          rw [nI_clamp (by omega), s1]
          refine ev_icmp_ne 39 d_Rd_readLines_32 (by decide) (fun hx => ?_) (fun hx => ?_)
          · have nlf : ¬ sg i = 10 := fun q => hx (by rw [q]; rfl)
            refine ev_iconst (v := 0) d_Rd_readLines_39 (by decide) ?_
            refine ev_istore d_Rd_readLines_40 (by decide) ?_
            refine ev_iload d_Rd_readLines_42 rfl ?_
            refine ev_if_ne 55 d_Rd_readLines_44 (by decide) (fun q => absurd rfl q) (fun _ => ?_)
            refine ev_iload d_Rd_readLines_47 rfl ?_
            refine ev_iload_n d_Rd_readLines_49 rfl rfl ?_
            refine ev_iconst (v := 1) d_Rd_readLines_50 (by decide) ?_
            refine ev_isub d_Rd_readLines_51 ?_
            rw [show (nI n - 1 : Int32) = nI (n - 1) from pk_sub (b := 1) (by omega)]
            refine ev_icmp_ne 105 d_Rd_readLines_52 (by decide) (fun hy => ?_) (fun hy => ?_)
            · have ni : ¬ i = n - 1 := fun q => hy (by rw [q])
              refine ev_iinc d_Rd_readLines_105 rfl (by first | exact nI_1 _ | rfl) (by decide) ?_
              refine ev_goto 7 d_Rd_readLines_108 (by decide) ?_
              refine ev_keep [0, 1, 2, 3, 4] ?_
              refine ih (i + 1) k b K N (fu' + 1) _ _ _ _ _ _ _ _ _ _ (by omega) (by omega) (fun q => by omega) hkb hK hN hfu (fun p p1 p2 => ?_) hf hz h
              by_cases q : p = i
              · rw [q]; exact nlf
              · exact hno p p1 (by omega)
            · have ni : i = n - 1 := (nI_eq (by omega) (by omega)).mp hy
              refine ev_iinc d_Rd_readLines_55 rfl (by first | exact nI_1 _ | rfl) (by decide) ?_
              refine ev_aload_n d_Rd_readLines_58 rfl rfl ?_
              refine ev_get d_Rd_readLines_59 fo_Rd_24 (by first | assumption | exact pm_up_eq | (refine pm_up_ne (by first | assumption | (apply Ne.symm; assumption) | exact pm_neK (G := G) (by assumption) (by assumption) (by omega) | exact pm_neOA (G := G) (by assumption) (by assumption) | exact (pm_neOA (G := G) (by assumption) (by assumption)).symm | exact pm_neN (G := G) (by assumption) (by assumption) | exact (pm_neN (G := G) (by assumption) (by assumption)).symm) ?_; first | assumption | exact pm_up_eq | (refine pm_up_ne (by first | assumption | (apply Ne.symm; assumption) | exact pm_neK (G := G) (by assumption) (by assumption) (by omega) | exact pm_neOA (G := G) (by assumption) (by assumption) | exact (pm_neOA (G := G) (by assumption) (by assumption)).symm | exact pm_neN (G := G) (by assumption) (by assumption) | exact (pm_neN (G := G) (by assumption) (by assumption)).symm) ?_; first | assumption | exact pm_up_eq | (refine pm_up_ne (by first | assumption | (apply Ne.symm; assumption) | exact pm_neK (G := G) (by assumption) (by assumption) (by omega) | exact pm_neOA (G := G) (by assumption) (by assumption) | exact (pm_neOA (G := G) (by assumption) (by assumption)).symm | exact pm_neN (G := G) (by assumption) (by assumption) | exact (pm_neN (G := G) (by assumption) (by assumption)).symm) ?_; first | assumption | exact pm_up_eq | (refine pm_up_ne (by first | assumption | (apply Ne.symm; assumption) | exact pm_neK (G := G) (by assumption) (by assumption) (by omega) | exact pm_neOA (G := G) (by assumption) (by assumption) | exact (pm_neOA (G := G) (by assumption) (by assumption)).symm | exact pm_neN (G := G) (by assumption) (by assumption) | exact (pm_neN (G := G) (by assumption) (by assumption)).symm) ?_; first | assumption | exact pm_up_eq | (refine pm_up_ne (by first | assumption | (apply Ne.symm; assumption) | exact pm_neK (G := G) (by assumption) (by assumption) (by omega) | exact pm_neOA (G := G) (by assumption) (by assumption) | exact (pm_neOA (G := G) (by assumption) (by assumption)).symm | exact pm_neN (G := G) (by assumption) (by assumption) | exact (pm_neN (G := G) (by assumption) (by assumption)).symm) ?_; first | assumption | exact pm_up_eq)))))) rfl ?_
              refine ev_iload_n d_Rd_readLines_62 rfl rfl ?_
              refine ev_iload d_Rd_readLines_63 rfl ?_
              refine ev_if_eq 73 d_Rd_readLines_65 (by decide) (fun _ => ?_) (fun q => absurd rfl q)
              refine ev_iload d_Rd_readLines_73 rfl ?_
              refine ev_iconst (v := 1) d_Rd_readLines_75 (by decide) ?_
              refine ev_iadd d_Rd_readLines_76 ?_
              rw [nI_1 i]
              refine line (i + 1) 0 (by omega) (by omega) ?_ (Or.inr ⟨rfl, by omega, rfl⟩) (Or.inl (by omega))
              rw [l_en_no (fun p p1 p2 => ?_)]
              · omega
              · by_cases q : p = i
                · rw [q]; exact nlf
                · exact hno p p1 (by omega)
          · have lf : sg i = 10 := (nI_eq (by omega) (b := 10) (by omega)).mp hx
            refine ev_iconst (v := 1) d_Rd_readLines_35 (by decide) ?_
            refine ev_goto 40 d_Rd_readLines_36 (by decide) ?_
            refine ev_istore d_Rd_readLines_40 (by decide) ?_
            refine ev_iload d_Rd_readLines_42 rfl ?_
            refine ev_if_ne 55 d_Rd_readLines_44 (by decide) (fun _ => ?_) (fun q => absurd q (by decide))
            refine ev_iinc d_Rd_readLines_55 rfl (by first | exact nI_1 _ | rfl) (by decide) ?_
            refine ev_aload_n d_Rd_readLines_58 rfl rfl ?_
            refine ev_get d_Rd_readLines_59 fo_Rd_24 (by first | assumption | exact pm_up_eq | (refine pm_up_ne (by first | assumption | (apply Ne.symm; assumption) | exact pm_neK (G := G) (by assumption) (by assumption) (by omega) | exact pm_neOA (G := G) (by assumption) (by assumption) | exact (pm_neOA (G := G) (by assumption) (by assumption)).symm | exact pm_neN (G := G) (by assumption) (by assumption) | exact (pm_neN (G := G) (by assumption) (by assumption)).symm) ?_; first | assumption | exact pm_up_eq | (refine pm_up_ne (by first | assumption | (apply Ne.symm; assumption) | exact pm_neK (G := G) (by assumption) (by assumption) (by omega) | exact pm_neOA (G := G) (by assumption) (by assumption) | exact (pm_neOA (G := G) (by assumption) (by assumption)).symm | exact pm_neN (G := G) (by assumption) (by assumption) | exact (pm_neN (G := G) (by assumption) (by assumption)).symm) ?_; first | assumption | exact pm_up_eq | (refine pm_up_ne (by first | assumption | (apply Ne.symm; assumption) | exact pm_neK (G := G) (by assumption) (by assumption) (by omega) | exact pm_neOA (G := G) (by assumption) (by assumption) | exact (pm_neOA (G := G) (by assumption) (by assumption)).symm | exact pm_neN (G := G) (by assumption) (by assumption) | exact (pm_neN (G := G) (by assumption) (by assumption)).symm) ?_; first | assumption | exact pm_up_eq | (refine pm_up_ne (by first | assumption | (apply Ne.symm; assumption) | exact pm_neK (G := G) (by assumption) (by assumption) (by omega) | exact pm_neOA (G := G) (by assumption) (by assumption) | exact (pm_neOA (G := G) (by assumption) (by assumption)).symm | exact pm_neN (G := G) (by assumption) (by assumption) | exact (pm_neN (G := G) (by assumption) (by assumption)).symm) ?_; first | assumption | exact pm_up_eq | (refine pm_up_ne (by first | assumption | (apply Ne.symm; assumption) | exact pm_neK (G := G) (by assumption) (by assumption) (by omega) | exact pm_neOA (G := G) (by assumption) (by assumption) | exact (pm_neOA (G := G) (by assumption) (by assumption)).symm | exact pm_neN (G := G) (by assumption) (by assumption) | exact (pm_neN (G := G) (by assumption) (by assumption)).symm) ?_; first | assumption | exact pm_up_eq)))))) rfl ?_
            refine ev_iload_n d_Rd_readLines_62 rfl rfl ?_
            refine ev_iload d_Rd_readLines_63 rfl ?_
            refine ev_if_eq 73 d_Rd_readLines_65 (by decide) (fun q => absurd q (by decide)) (fun _ => ?_)
            refine ev_iload d_Rd_readLines_68 rfl ?_
            refine ev_goto 77 d_Rd_readLines_70 (by decide) ?_
            exact line i 1 (by omega) (by omega) (l_en_lf hbi (by omega) hno lf) (Or.inl ⟨rfl, rfl⟩) (Or.inr rfl)
  refine ev_iconst (v := 0) d_Rd_readLines_0 (by decide) ?_
  refine ev_istore_n d_Rd_readLines_1 rfl (by decide) ?_
  refine ev_iconst (v := 0) d_Rd_readLines_2 (by decide) ?_
  refine ev_istore_n d_Rd_readLines_3 rfl (by decide) ?_
  refine ev_iconst (v := 0) d_Rd_readLines_4 (by decide) ?_
  refine ev_istore d_Rd_readLines_5 (by decide) ?_
  exact loop n 0 0 0 0 0 (n + 1) _ _ _ _ _ _ _ _ _ _ (by omega) (by omega) (fun q => q) (by omega) (by omega) (by omega) (by omega) (fun p p1 p2 => by omega) pm_fr.rf hz h
theorem c_Rd_init (hG : G r = some (30, .inr (3, [.null, .null, .null, .null, .null, .int 0]))) : cn_M l X m_Rd_init 2 4 38 [.ref r, .ref pl, .ref sg0] G (fun y G' => y = none ∧ pm_fr (fun c => 30 ≤ c ∧ c ≤ 34) G G' ∧ ∃ wo ba ea oa, G' r = some (30, .inr (3, [.ref pl, .ref sg0, .ref wo, .null, .ref oa, .int 0])) ∧ wd_at G' wo sg0 ba ea 0 (fun _ => 0) (fun _ => 0) ∧ G' oa = some (34, .inl (0, 8, .inl (fun _ => 0)))) := by
  refine cn_in rfl (Nat.le_of_ble_eq_true rfl) ?_
  refine ev_aload_n d_Rd_init_0 rfl rfl ?_
  refine ev_objInit d_Rd_init_1 hw_501 hw_34 hw_35 (Nat.le_of_ble_eq_true rfl) (by omega) ?_
  refine ev_aload_n d_Rd_init_4 rfl rfl ?_
  refine ev_aload_n d_Rd_init_5 rfl rfl ?_
  refine ev_putF d_Rd_init_6 fo_Rd_9 rfl (fun _ _ _ h => by cases h; rfl) (by first | assumption | exact pm_up_eq | (refine pm_up_ne (by first | assumption | (apply Ne.symm; assumption) | exact pm_neK (G := G) (by assumption) (by assumption) (by omega) | exact pm_neOA (G := G) (by assumption) (by assumption) | exact (pm_neOA (G := G) (by assumption) (by assumption)).symm | exact pm_neN (G := G) (by assumption) (by assumption) | exact (pm_neN (G := G) (by assumption) (by assumption)).symm) ?_; first | assumption | exact pm_up_eq | (refine pm_up_ne (by first | assumption | (apply Ne.symm; assumption) | exact pm_neK (G := G) (by assumption) (by assumption) (by omega) | exact pm_neOA (G := G) (by assumption) (by assumption) | exact (pm_neOA (G := G) (by assumption) (by assumption)).symm | exact pm_neN (G := G) (by assumption) (by assumption) | exact (pm_neN (G := G) (by assumption) (by assumption)).symm) ?_; first | assumption | exact pm_up_eq | (refine pm_up_ne (by first | assumption | (apply Ne.symm; assumption) | exact pm_neK (G := G) (by assumption) (by assumption) (by omega) | exact pm_neOA (G := G) (by assumption) (by assumption) | exact (pm_neOA (G := G) (by assumption) (by assumption)).symm | exact pm_neN (G := G) (by assumption) (by assumption) | exact (pm_neN (G := G) (by assumption) (by assumption)).symm) ?_; first | assumption | exact pm_up_eq | (refine pm_up_ne (by first | assumption | (apply Ne.symm; assumption) | exact pm_neK (G := G) (by assumption) (by assumption) (by omega) | exact pm_neOA (G := G) (by assumption) (by assumption) | exact (pm_neOA (G := G) (by assumption) (by assumption)).symm | exact pm_neN (G := G) (by assumption) (by assumption) | exact (pm_neN (G := G) (by assumption) (by assumption)).symm) ?_; first | assumption | exact pm_up_eq | (refine pm_up_ne (by first | assumption | (apply Ne.symm; assumption) | exact pm_neK (G := G) (by assumption) (by assumption) (by omega) | exact pm_neOA (G := G) (by assumption) (by assumption) | exact (pm_neOA (G := G) (by assumption) (by assumption)).symm | exact pm_neN (G := G) (by assumption) (by assumption) | exact (pm_neN (G := G) (by assumption) (by assumption)).symm) ?_; first | assumption | exact pm_up_eq)))))) rfl rfl (Nat.le_of_ble_eq_true rfl) ?_
  refine ev_aload_n d_Rd_init_9 rfl rfl ?_
  refine ev_aload_n d_Rd_init_10 rfl rfl ?_
  refine ev_putF d_Rd_init_11 fo_Rd_15 rfl (fun _ _ _ h => by cases h; rfl) (by first | assumption | exact pm_up_eq | (refine pm_up_ne (by first | assumption | (apply Ne.symm; assumption) | exact pm_neK (G := G) (by assumption) (by assumption) (by omega) | exact pm_neOA (G := G) (by assumption) (by assumption) | exact (pm_neOA (G := G) (by assumption) (by assumption)).symm | exact pm_neN (G := G) (by assumption) (by assumption) | exact (pm_neN (G := G) (by assumption) (by assumption)).symm) ?_; first | assumption | exact pm_up_eq | (refine pm_up_ne (by first | assumption | (apply Ne.symm; assumption) | exact pm_neK (G := G) (by assumption) (by assumption) (by omega) | exact pm_neOA (G := G) (by assumption) (by assumption) | exact (pm_neOA (G := G) (by assumption) (by assumption)).symm | exact pm_neN (G := G) (by assumption) (by assumption) | exact (pm_neN (G := G) (by assumption) (by assumption)).symm) ?_; first | assumption | exact pm_up_eq | (refine pm_up_ne (by first | assumption | (apply Ne.symm; assumption) | exact pm_neK (G := G) (by assumption) (by assumption) (by omega) | exact pm_neOA (G := G) (by assumption) (by assumption) | exact (pm_neOA (G := G) (by assumption) (by assumption)).symm | exact pm_neN (G := G) (by assumption) (by assumption) | exact (pm_neN (G := G) (by assumption) (by assumption)).symm) ?_; first | assumption | exact pm_up_eq | (refine pm_up_ne (by first | assumption | (apply Ne.symm; assumption) | exact pm_neK (G := G) (by assumption) (by assumption) (by omega) | exact pm_neOA (G := G) (by assumption) (by assumption) | exact (pm_neOA (G := G) (by assumption) (by assumption)).symm | exact pm_neN (G := G) (by assumption) (by assumption) | exact (pm_neN (G := G) (by assumption) (by assumption)).symm) ?_; first | assumption | exact pm_up_eq | (refine pm_up_ne (by first | assumption | (apply Ne.symm; assumption) | exact pm_neK (G := G) (by assumption) (by assumption) (by omega) | exact pm_neOA (G := G) (by assumption) (by assumption) | exact (pm_neOA (G := G) (by assumption) (by assumption)).symm | exact pm_neN (G := G) (by assumption) (by assumption) | exact (pm_neN (G := G) (by assumption) (by assumption)).symm) ?_; first | assumption | exact pm_up_eq)))))) rfl rfl (Nat.le_of_ble_eq_true rfl) ?_
  rw [pm_up_up]
  have f0 : pm_fr (fun c => 30 ≤ c ∧ c ≤ 34) G (pm_up G r (30, .inr (3, [.ref pl, .ref sg0, .null, .null, .null, .int 0]))) := pm_fr.put hG (by omega)
  have a0 : pm_up G r (30, .inr (3, [.ref pl, .ref sg0, .null, .null, .null, .int 0])) r = some (30, .inr (3, [.ref pl, .ref sg0, .null, .null, .null, .int 0])) := pm_up_eq
  show ev_W l X m_Rd_init 2 4 38 _ _ _ _ _ _ (pm_up G r (30, .inr (3, [.ref pl, .ref sg0, .null, .null, .null, .int 0])))
  generalize pm_up G r (30, .inr (3, [.ref pl, .ref sg0, .null, .null, .null, .int 0])) = G1 at f0 a0 ⊢
  refine ev_aload_n d_Rd_init_14 rfl rfl ?_
  refine ev_new 31 d_Rd_init_15 no_Rd_19 (by omega) (by omega) (fun q_15 hq_15 => ?_)
  refine ev_dup d_Rd_init_18 rfl ?_
  refine ev_aload_n d_Rd_init_19 rfl rfl ?_
  have n1 : r ≠ q_15 := pm_neN a0 hq_15
  refine ev_callI1 d_Rd_init_20 ck_Wd_init ml_Rd_21 im_Wd_init rfl rfl (c_Wd_init pm_up_eq) (by omega) (Nat.le_of_ble_eq_true rfl) (by omega) (by omega) ?_
  rintro _ G2 ⟨rfl, f2, ba, ea, hw⟩
  have f12 : pm_fr (fun c => 31 ≤ c ∧ c ≤ 33) G1 G2 := (pm_fr.new hq_15).tr f2
  have a2 := f12 _ _ _ a0 (by omega)
  refine ev_putF d_Rd_init_23 fo_Rd_24 rfl (fun _ _ _ h => by cases h; rfl) (by first | assumption | exact pm_up_eq | (refine pm_up_ne (by first | assumption | (apply Ne.symm; assumption) | exact pm_neK (G := G) (by assumption) (by assumption) (by omega) | exact pm_neOA (G := G) (by assumption) (by assumption) | exact (pm_neOA (G := G) (by assumption) (by assumption)).symm | exact pm_neN (G := G) (by assumption) (by assumption) | exact (pm_neN (G := G) (by assumption) (by assumption)).symm) ?_; first | assumption | exact pm_up_eq | (refine pm_up_ne (by first | assumption | (apply Ne.symm; assumption) | exact pm_neK (G := G) (by assumption) (by assumption) (by omega) | exact pm_neOA (G := G) (by assumption) (by assumption) | exact (pm_neOA (G := G) (by assumption) (by assumption)).symm | exact pm_neN (G := G) (by assumption) (by assumption) | exact (pm_neN (G := G) (by assumption) (by assumption)).symm) ?_; first | assumption | exact pm_up_eq | (refine pm_up_ne (by first | assumption | (apply Ne.symm; assumption) | exact pm_neK (G := G) (by assumption) (by assumption) (by omega) | exact pm_neOA (G := G) (by assumption) (by assumption) | exact (pm_neOA (G := G) (by assumption) (by assumption)).symm | exact pm_neN (G := G) (by assumption) (by assumption) | exact (pm_neN (G := G) (by assumption) (by assumption)).symm) ?_; first | assumption | exact pm_up_eq | (refine pm_up_ne (by first | assumption | (apply Ne.symm; assumption) | exact pm_neK (G := G) (by assumption) (by assumption) (by omega) | exact pm_neOA (G := G) (by assumption) (by assumption) | exact (pm_neOA (G := G) (by assumption) (by assumption)).symm | exact pm_neN (G := G) (by assumption) (by assumption) | exact (pm_neN (G := G) (by assumption) (by assumption)).symm) ?_; first | assumption | exact pm_up_eq | (refine pm_up_ne (by first | assumption | (apply Ne.symm; assumption) | exact pm_neK (G := G) (by assumption) (by assumption) (by omega) | exact pm_neOA (G := G) (by assumption) (by assumption) | exact (pm_neOA (G := G) (by assumption) (by assumption)).symm | exact pm_neN (G := G) (by assumption) (by assumption) | exact (pm_neN (G := G) (by assumption) (by assumption)).symm) ?_; first | assumption | exact pm_up_eq)))))) rfl rfl (Nat.le_of_ble_eq_true rfl) ?_
  refine ev_aload_n d_Rd_init_26 rfl rfl ?_
  refine ev_bipush (v := 8) d_Rd_init_27 (by decide) ?_
  refine ev_newa (34) (t := 0) (N := 8) (a0 := .inl (fun _ => 0)) d_Rd_init_29 rfl rfl hw_96 (fun _ => rfl) (by decide) (by decide) (by decide) (by omega) (by omega) (fun q_29 hq_29 => ?_)
  have n2 : r ≠ q_29 := pm_neN pm_up_eq hq_29
  refine ev_putF d_Rd_init_31 fo_Rd_28 rfl (fun _ _ _ h => by cases h; rfl) (by first | assumption | exact pm_up_eq | (refine pm_up_ne (by first | assumption | (apply Ne.symm; assumption) | exact pm_neK (G := G) (by assumption) (by assumption) (by omega) | exact pm_neOA (G := G) (by assumption) (by assumption) | exact (pm_neOA (G := G) (by assumption) (by assumption)).symm | exact pm_neN (G := G) (by assumption) (by assumption) | exact (pm_neN (G := G) (by assumption) (by assumption)).symm) ?_; first | assumption | exact pm_up_eq | (refine pm_up_ne (by first | assumption | (apply Ne.symm; assumption) | exact pm_neK (G := G) (by assumption) (by assumption) (by omega) | exact pm_neOA (G := G) (by assumption) (by assumption) | exact (pm_neOA (G := G) (by assumption) (by assumption)).symm | exact pm_neN (G := G) (by assumption) (by assumption) | exact (pm_neN (G := G) (by assumption) (by assumption)).symm) ?_; first | assumption | exact pm_up_eq | (refine pm_up_ne (by first | assumption | (apply Ne.symm; assumption) | exact pm_neK (G := G) (by assumption) (by assumption) (by omega) | exact pm_neOA (G := G) (by assumption) (by assumption) | exact (pm_neOA (G := G) (by assumption) (by assumption)).symm | exact pm_neN (G := G) (by assumption) (by assumption) | exact (pm_neN (G := G) (by assumption) (by assumption)).symm) ?_; first | assumption | exact pm_up_eq | (refine pm_up_ne (by first | assumption | (apply Ne.symm; assumption) | exact pm_neK (G := G) (by assumption) (by assumption) (by omega) | exact pm_neOA (G := G) (by assumption) (by assumption) | exact (pm_neOA (G := G) (by assumption) (by assumption)).symm | exact pm_neN (G := G) (by assumption) (by assumption) | exact (pm_neN (G := G) (by assumption) (by assumption)).symm) ?_; first | assumption | exact pm_up_eq | (refine pm_up_ne (by first | assumption | (apply Ne.symm; assumption) | exact pm_neK (G := G) (by assumption) (by assumption) (by omega) | exact pm_neOA (G := G) (by assumption) (by assumption) | exact (pm_neOA (G := G) (by assumption) (by assumption)).symm | exact pm_neN (G := G) (by assumption) (by assumption) | exact (pm_neN (G := G) (by assumption) (by assumption)).symm) ?_; first | assumption | exact pm_up_eq)))))) rfl rfl (Nat.le_of_ble_eq_true rfl) ?_
  obtain ⟨x1, x2⟩ := pm_upN hq_29
  have f3 : pm_fr (fun c => c = 30) G2 (pm_up (pm_up (pm_up G2 r (30, .inr (3, [.ref pl, .ref sg0, .ref q_15, .null, .null, .int 0]))) q_29 (34, .inl (0, 8, .inl (fun _ => 0)))) r (30, .inr (3, [.ref pl, .ref sg0, .ref q_15, .null, .ref q_29, .int 0]))) := ((pm_fr.put (S := fun c => c = 30) a2 rfl).tr (pm_fr.new hq_29)).tr (pm_fr.put (pm_up_ne n2 pm_up_eq) rfl)
  refine ev_vret d_Rd_init_34 rfl ⟨rfl, (f0.tr (f12.mono (fun c q => by omega))).tr (f3.mono (fun c q => by omega)), q_15, ba, ea, q_29, pm_up_eq, hw.fr f3 (by omega) (by omega) (by omega), pm_up_ne n2.symm pm_up_eq⟩
/-- what a run needs -/
theorem pz_ps {lv : Nat → Nat} (hb : pz_b z) (hn : pz_n z lv) : ps_ok (zSn z) (zSD z) (zNl z) (zBh z) lv := by
  obtain ⟨n1, n2, n3, n4, n5, n6, n7, n8, n9, n10⟩ := hn
  have := hb.sn
  refine ⟨by omega, fun i hi => (n1 i hi).1, fun i hi => ⟨rfl, (n2 i hi).1, (n2 i hi).2⟩, fun i hi q => (n1 i hi).2.1 q, fun i hi q => ⟨((n1 i hi).2.2.1 q).1, ((n1 i hi).2.2.1 q).2.1⟩, fun i hi q => ?_⟩
  have hg : bk_g (zSd z i) := q.elim Or.inl (fun x => Or.inr (Or.inl x))
  exact ⟨(n4 i hi).resolve_right (fun x => x hg), fun j j1 j2 => n3 i hi hg j j1 j2⟩
theorem pz_pt {lv : Nat → Nat} (hb : pz_b z) (hn : pz_n z lv) : pt_ok (zTn z) (zSn z) (zTD z) (zBh z) lv (zFi z) (zBe z) (zAl z) := by
  obtain ⟨n1, n2, n3, n4, n5, n6, n7, n8, n9, n10⟩ := hn
  have hb0 := hb
  obtain ⟨b1, b2, b3, b4, b5, b6, b7, b8, b9, b10⟩ := hb
  intro i hi
  have hbe : zFi z i ≤ zBe z i ∧ zBe z i ≤ zSn z ∧ ∀ j, j < zBe z i → zBh z j ≤ zBe z i := by
    unfold zBe
    by_cases q : i + 1 < zTn z
    · rw [if_pos q]
      have := fi_le hb0 q
      have := (b8 (by omega)).1
      exact ⟨b7 i q, by omega, fun j hj => n9 i q j hj⟩
    · rw [if_neg q]
      have := (b8 (by omega)).1
      rw [show zTn z - 1 = i by omega] at this
      exact ⟨this, Nat.le_refl _, fun j hj => (n2 j hj).2⟩
  refine ⟨rfl, rfl, hbe.1, hbe.2.1, fun j _ j2 => hbe.2.2 j j2, rfl, fun a ha => ?_⟩
  obtain ⟨a1, a2, a3⟩ := n10 i a hi ha
  refine ⟨by omega, fun j j1 j2 => ?_⟩
  have := n3 a (by omega) (bk_8 a3) j j1 j2
  exact ⟨by omega, this.1⟩
end RX
