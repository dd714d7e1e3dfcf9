/-! THE MODEL READS: step -/
theorem tx_ne : ∀ i, i < 11 → ∀ j, j < 11 → i ≠ j → ¬ (pm_sl.getD i 0 = pm_sl.getD j 0 ∧ ∀ k, k < pm_sl.getD i 0 → (pm_sb.getD i []).getD k 0 = (pm_sb.getD j []).getD k 0) := by decide +kernel
theorem wi_ex {sg : Nat → Nat} {b f i j : Nat} (hi : i < 11) (hj : j < 11) (hij : i ≠ j) (h : wi_s sg b f i) : ¬ wi_s sg b f j := by
  intro h2
  have e1 : pm_sl.getD i 0 = pm_sl.getD j 0 := h.1.symm.trans h2.1
  exact tx_ne i hi j hj hij ⟨e1, fun k hk => (h.2 k hk).symm.trans (h2.2 k (by omega))⟩
theorem w_kd_1 {sg : Nat → Nat} {s e : Nat} (h : w_is sg s e 0 3) : w_kd sg s e = 1 := by
  unfold w_kd
  rw [zIf_t h]
theorem w_kd_2 {sg : Nat → Nat} {s e : Nat} (h : w_is sg s e 0 4) : w_kd sg s e = 2 := by
  unfold w_kd
  rw [zIf_f (p := w_is sg s e 0 3) (wi_ex (by decide) (by decide) (by decide) h), zIf_t h]
theorem w_kd_3 {sg : Nat → Nat} {s e : Nat} (h : w_is sg s e 0 5) : w_kd sg s e = 3 := by
  unfold w_kd
  rw [zIf_f (p := w_is sg s e 0 3) (wi_ex (by decide) (by decide) (by decide) h), zIf_f (p := w_is sg s e 0 4) (wi_ex (by decide) (by decide) (by decide) h), zIf_t h]
theorem w_kd_4 {sg : Nat → Nat} {s e : Nat} (h : w_is sg s e 0 6) : w_kd sg s e = 4 := by
  unfold w_kd
  rw [zIf_f (p := w_is sg s e 0 3) (wi_ex (by decide) (by decide) (by decide) h), zIf_f (p := w_is sg s e 0 4) (wi_ex (by decide) (by decide) (by decide) h), zIf_f (p := w_is sg s e 0 5) (wi_ex (by decide) (by decide) (by decide) h), zIf_t h]
theorem w_kd_5 {sg : Nat → Nat} {s e : Nat} (h : w_is sg s e 0 7) : w_kd sg s e = 5 := by
  unfold w_kd
  rw [zIf_f (p := w_is sg s e 0 3) (wi_ex (by decide) (by decide) (by decide) h), zIf_f (p := w_is sg s e 0 4) (wi_ex (by decide) (by decide) (by decide) h), zIf_f (p := w_is sg s e 0 5) (wi_ex (by decide) (by decide) (by decide) h), zIf_f (p := w_is sg s e 0 6) (wi_ex (by decide) (by decide) (by decide) h), zIf_t h]
theorem w_kd_6 {sg : Nat → Nat} {s e : Nat} (h : w_is sg s e 0 8) : w_kd sg s e = 6 := by
  unfold w_kd
  rw [zIf_f (p := w_is sg s e 0 3) (wi_ex (by decide) (by decide) (by decide) h), zIf_f (p := w_is sg s e 0 4) (wi_ex (by decide) (by decide) (by decide) h), zIf_f (p := w_is sg s e 0 5) (wi_ex (by decide) (by decide) (by decide) h), zIf_f (p := w_is sg s e 0 6) (wi_ex (by decide) (by decide) (by decide) h), zIf_f (p := w_is sg s e 0 7) (wi_ex (by decide) (by decide) (by decide) h), zIf_t h]
theorem w_kd_7 {sg : Nat → Nat} {s e : Nat} (h : w_is sg s e 0 9) : w_kd sg s e = 7 := by
  unfold w_kd
  rw [zIf_f (p := w_is sg s e 0 3) (wi_ex (by decide) (by decide) (by decide) h), zIf_f (p := w_is sg s e 0 4) (wi_ex (by decide) (by decide) (by decide) h), zIf_f (p := w_is sg s e 0 5) (wi_ex (by decide) (by decide) (by decide) h), zIf_f (p := w_is sg s e 0 6) (wi_ex (by decide) (by decide) (by decide) h), zIf_f (p := w_is sg s e 0 7) (wi_ex (by decide) (by decide) (by decide) h), zIf_f (p := w_is sg s e 0 8) (wi_ex (by decide) (by decide) (by decide) h), zIf_t h]
theorem w_kd_8 {sg : Nat → Nat} {s e : Nat} (h : w_is sg s e 0 10) : w_kd sg s e = 8 := by
  unfold w_kd
  rw [zIf_f (p := w_is sg s e 0 3) (wi_ex (by decide) (by decide) (by decide) h), zIf_f (p := w_is sg s e 0 4) (wi_ex (by decide) (by decide) (by decide) h), zIf_f (p := w_is sg s e 0 5) (wi_ex (by decide) (by decide) (by decide) h), zIf_f (p := w_is sg s e 0 6) (wi_ex (by decide) (by decide) (by decide) h), zIf_f (p := w_is sg s e 0 7) (wi_ex (by decide) (by decide) (by decide) h), zIf_f (p := w_is sg s e 0 8) (wi_ex (by decide) (by decide) (by decide) h), zIf_f (p := w_is sg s e 0 9) (wi_ex (by decide) (by decide) (by decide) h), zIf_t h]
theorem w_kd_no {sg : Nat → Nat} {s e : Nat} (h : ∀ i, 3 ≤ i → i ≤ 10 → ¬ w_is sg s e 0 i) : w_kd sg s e = 0 := by
  unfold w_kd
  rw [zIf_f (h 3 (by decide) (by decide)), zIf_f (h 4 (by decide) (by decide)), zIf_f (h 5 (by decide) (by decide)), zIf_f (h 6 (by decide) (by decide)), zIf_f (h 7 (by decide) (by decide)), zIf_f (h 8 (by decide) (by decide)), zIf_f (h 9 (by decide) (by decide)), zIf_f (h 10 (by decide) (by decide))]
theorem pf_1 {sg : Nat → Nat} {s e n : Nat} {z : pz} (hk : w_kd sg s e = 1) : pz_fill sg s e n z = zIf (w_c sg s e = 3 ∧ 0 < w_v sg s e z ∧ w_num sg s e 2 ≠ -1000000) (some (sf_D 1 (nI n) (nI (w_v sg s e z)) 0 (w_num sg s e 2) 0, 0, (fun _ => 0), z)) none := by
  unfold pz_fill
  rw [hk, zIf_t rfl]
theorem pf_2 {sg : Nat → Nat} {s e n : Nat} {z : pz} (hk : w_kd sg s e = 2) : pz_fill sg s e n z = zIf (w_c sg s e = 4 ∧ 0 < w_v sg s e z ∧ w_num sg s e 2 ≠ -1000000 ∧ w_num sg s e 2 ≤ w_num sg s e 3 ∧ w_num sg s e 3 ≤ 999999) (some (sf_D 2 (nI n) (nI (w_v sg s e z)) 0 (w_num sg s e 2) (w_num sg s e 3), 0, (fun _ => 0), z)) none := by
  unfold pz_fill
  rw [hk, zIf_f (by decide), zIf_t rfl]
theorem pf_3 {sg : Nat → Nat} {s e n : Nat} {z : pz} (hk : w_kd sg s e = 3) : pz_fill sg s e n z = zIf (w_c sg s e = 5 ∧ w_op sg s e 2 ≠ 0 ∧ 0 < w_v sg s e z ∧ w_num sg s e 3 ≠ -1000000 ∧ 0 ≤ w_num sg s e 4 ∧ w_num sg s e 4 ≤ 1000) (some (sf_D 3 (nI n) (nI (w_v sg s e z)) (w_op sg s e 2) (w_num sg s e 3) (w_num sg s e 4), 0, (fun _ => 0), z)) none := by
  unfold pz_fill
  rw [hk, zIf_f (by decide), zIf_f (by decide), zIf_t rfl]
theorem pf_4 {sg : Nat → Nat} {s e n : Nat} {z : pz} (hk : w_kd sg s e = 4) : pz_fill sg s e n z = zIf (w_c sg s e = 4 ∧ w_op sg s e 2 ≠ 0 ∧ 0 < w_v sg s e z ∧ w_num sg s e 3 ≠ -1000000) (some (sf_D 4 (nI n) (nI (w_v sg s e z)) (w_op sg s e 2) (w_num sg s e 3) 0, 0, (fun _ => 0), z)) none := by
  unfold pz_fill
  rw [hk, zIf_f (by decide), zIf_f (by decide), zIf_f (by decide), zIf_t rfl]
theorem pf_5 {sg : Nat → Nat} {s e n : Nat} {z : pz} (hk : w_kd sg s e = 5) : pz_fill sg s e n z = zIf (w_c sg s e = 3 ∧ 1 ≤ w_num sg s e 1 ∧ w_num sg s e 1 ≤ 8 ∧ (w_is sg s e 2 15 ∨ w_is sg s e 2 16)) (some (sf_D 5 (nI n) 0 0 (w_num sg s e 1) (zIf (w_is sg s e 2 15) 1 0), 0, (fun _ => 0), z)) none := by
  unfold pz_fill
  rw [hk, zIf_f (by decide), zIf_f (by decide), zIf_f (by decide), zIf_f (by decide), zIf_t rfl]
theorem pf_6 {sg : Nat → Nat} {s e n : Nat} {z : pz} (hk : w_kd sg s e = 6) : pz_fill sg s e n z = zIf (w_c sg s e = 2 ∧ 1 ≤ w_num sg s e 1 ∧ w_num sg s e 1 ≤ 20 ∧ zDp z < 8) (some (sf_D 6 (nI n) 0 0 (w_num sg s e 1) 0, 0, (fun _ => 0), pz_open z)) none := by
  unfold pz_fill
  rw [hk, zIf_f (by decide), zIf_f (by decide), zIf_f (by decide), zIf_f (by decide), zIf_f (by decide), zIf_t rfl]
theorem pf_7 {sg : Nat → Nat} {s e n : Nat} {z : pz} (hk : w_kd sg s e = 7) : pz_fill sg s e n z = zIf (0 < w_v sg s e z ∧ 3 ≤ w_c sg s e ∧ w_c sg s e ≤ 12 ∧ (∀ i, i < w_c sg s e - 2 → w_num sg s e (i + 2) ≠ -1000000) ∧ zDp z < 8) (some (sf_D 7 (nI n) (nI (w_v sg s e z)) 0 0 0, w_c sg s e - 2, (fun i => if i < w_c sg s e - 2 then w_num sg s e (i + 2) else 0), pz_open z)) none := by
  unfold pz_fill
  rw [hk, zIf_f (by decide), zIf_f (by decide), zIf_f (by decide), zIf_f (by decide), zIf_f (by decide), zIf_f (by decide), zIf_t rfl]
theorem pf_8 {sg : Nat → Nat} {s e n : Nat} {z : pz} (hk : w_kd sg s e = 8) : pz_fill sg s e n z = zIf (w_c sg s e = 1 ∧ zDp z = 0 ∧ zAl z (zTn z - 1) = none) (some (sf_D 8 (nI n) 0 0 0 0, 0, (fun _ => 0), pz_open (pz_always z))) none := by
  unfold pz_fill
  rw [hk, zIf_f (by decide), zIf_f (by decide), zIf_f (by decide), zIf_f (by decide), zIf_f (by decide), zIf_f (by decide), zIf_f (by decide), zIf_t rfl]
theorem pf_0 {sg : Nat → Nat} {s e n : Nat} {z : pz} (hk : w_kd sg s e = 0) : pz_fill sg s e n z = none := by
  unfold pz_fill
  rw [hk, zIf_f (by decide), zIf_f (by decide), zIf_f (by decide), zIf_f (by decide), zIf_f (by decide), zIf_f (by decide), zIf_f (by decide), zIf_f (by decide)]
theorem ms_1 {M : Nat → Nat → Int32} {W : Nat → Nat → Int64} {c i : Nat} {li v x : Int32} {nf : Nat → Int32} (h24 : M 24 i = 0) (h25 : M 25 i = li) (h26 : M 26 i = v) (h27 : W 27 i = (x : Int32).toInt64) : ms_ok M W c i (sf_D 1 li v 0 x 0) 0 nf := ⟨h24, h25, h26, fun _ => h27, fun (q : (1 : Int32) = 2 ∨ (1 : Int32) = 3 ∨ (1 : Int32) = 5) => absurd q (by decide), fun (q : (1 : Int32) = 3 ∨ (1 : Int32) = 4) => absurd q (by decide), fun (q : (1 : Int32) = 6) => absurd q (by decide), fun (q : (1 : Int32) = 7) => absurd q (by decide)⟩
theorem ms_2 {M : Nat → Nat → Int32} {W : Nat → Nat → Int64} {c i : Nat} {li v x y : Int32} {nf : Nat → Int32} (h24 : M 24 i = 1) (h25 : M 25 i = li) (h26 : M 26 i = v) (h27 : W 27 i = (x : Int32).toInt64) (h28 : W 28 i = (y : Int32).toInt64) : ms_ok M W c i (sf_D 2 li v 0 x y) 0 nf := ⟨h24, h25, h26, fun _ => h27, fun _ => h28, fun (q : (2 : Int32) = 3 ∨ (2 : Int32) = 4) => absurd q (by decide), fun (q : (2 : Int32) = 6) => absurd q (by decide), fun (q : (2 : Int32) = 7) => absurd q (by decide)⟩
theorem ms_3 {M : Nat → Nat → Int32} {W : Nat → Nat → Int64} {c i : Nat} {li v x y o : Int32} {nf : Nat → Int32} (h24 : M 24 i = 3) (h25 : M 25 i = li) (h26 : M 26 i = v) (h27 : W 27 i = (x : Int32).toInt64) (h28 : W 28 i = (y : Int32).toInt64) (h29 : M 29 i = o) : ms_ok M W c i (sf_D 3 li v o x y) 0 nf := ⟨h24, h25, h26, fun _ => h27, fun _ => h28, fun _ => h29, fun (q : (3 : Int32) = 6) => absurd q (by decide), fun (q : (3 : Int32) = 7) => absurd q (by decide)⟩
theorem ms_4 {M : Nat → Nat → Int32} {W : Nat → Nat → Int64} {c i : Nat} {li v x o : Int32} {nf : Nat → Int32} (h24 : M 24 i = 2) (h25 : M 25 i = li) (h26 : M 26 i = v) (h27 : W 27 i = (x : Int32).toInt64) (h29 : M 29 i = o) : ms_ok M W c i (sf_D 4 li v o x 0) 0 nf := ⟨h24, h25, h26, fun _ => h27, fun (q : (4 : Int32) = 2 ∨ (4 : Int32) = 3 ∨ (4 : Int32) = 5) => absurd q (by decide), fun _ => h29, fun (q : (4 : Int32) = 6) => absurd q (by decide), fun (q : (4 : Int32) = 7) => absurd q (by decide)⟩
theorem ms_5 {M : Nat → Nat → Int32} {W : Nat → Nat → Int64} {c i : Nat} {li x y : Int32} {nf : Nat → Int32} (h24 : M 24 i = 4) (h25 : M 25 i = li) (h26 : M 26 i = 0) (h27 : W 27 i = (x : Int32).toInt64) (h28 : W 28 i = (y : Int32).toInt64) : ms_ok M W c i (sf_D 5 li 0 0 x y) 0 nf := ⟨h24, h25, h26, fun _ => h27, fun _ => h28, fun (q : (5 : Int32) = 3 ∨ (5 : Int32) = 4) => absurd q (by decide), fun (q : (5 : Int32) = 6) => absurd q (by decide), fun (q : (5 : Int32) = 7) => absurd q (by decide)⟩
theorem ms_6 {M : Nat → Nat → Int32} {W : Nat → Nat → Int64} {c i : Nat} {li x : Int32} {nf : Nat → Int32} (h24 : M 24 i = 5) (h25 : M 25 i = li) (h26 : M 26 i = 0) (h30 : M 30 i = x) : ms_ok M W c i (sf_D 6 li 0 0 x 0) 0 nf := ⟨h24, h25, h26, fun (q : (6 : Int32) = 1 ∨ (6 : Int32) = 2 ∨ (6 : Int32) = 3 ∨ (6 : Int32) = 4 ∨ (6 : Int32) = 5) => absurd q (by decide), fun (q : (6 : Int32) = 2 ∨ (6 : Int32) = 3 ∨ (6 : Int32) = 5) => absurd q (by decide), fun (q : (6 : Int32) = 3 ∨ (6 : Int32) = 4) => absurd q (by decide), fun _ => h30, fun (q : (6 : Int32) = 7) => absurd q (by decide)⟩
theorem ms_8 {M : Nat → Nat → Int32} {W : Nat → Nat → Int64} {c i : Nat} {li : Int32} {nf : Nat → Int32} (h24 : M 24 i = 7) (h25 : M 25 i = li) (h26 : M 26 i = 0) : ms_ok M W c i (sf_D 8 li 0 0 0 0) 0 nf := ⟨h24, h25, h26, fun (q : (8 : Int32) = 1 ∨ (8 : Int32) = 2 ∨ (8 : Int32) = 3 ∨ (8 : Int32) = 4 ∨ (8 : Int32) = 5) => absurd q (by decide), fun (q : (8 : Int32) = 2 ∨ (8 : Int32) = 3 ∨ (8 : Int32) = 5) => absurd q (by decide), fun (q : (8 : Int32) = 3 ∨ (8 : Int32) = 4) => absurd q (by decide), fun (q : (8 : Int32) = 6) => absurd q (by decide), fun (q : (8 : Int32) = 7) => absurd q (by decide)⟩
/-- a step has been read by the model -/
def st_P (sg : Nat → Nat) (s e n c : Nat) (z : pz) (I I' : Nat → Int32) (M M' : Nat → Nat → Int32) (W W' : Nat → Nat → Int64) (fl : pf_T) (c' : Nat) : Prop :=
  I' 11 = I 11 ∧ I' 14 = I 14 ∧ I' 23 = I 23 ∧ I' 36 = I 36 ∧ I' 34 = nI c' ∧ c ≤ c' ∧ 2 * c' ≤ e ∧ ms_ok M' W' c' (zSn z) fl.1 fl.2.1 fl.2.2.1 ∧ sw_fr (zSn z) c W W' ∧ M' 31 = M 31 ∧ M' 33 = M 33 ∧ (fl.1 0 ≠ 8 → M' 18 = M 18) ∧ (fl.1 0 = 8 → M' 18 = upd (M 18) (zTn z) (nI (zSn z))) ∧ pz_fill sg s e n z = zIf (bk_g fl.1 ∧ ¬ zDp z < 8) none (some fl) ∧ ∃ k, 1 ≤ k ∧ k ≤ 8 ∧ fl.1 0 = nI k
def st_Q (G0 : pm_G) (a : Nat) (A : Nat → Nat) (sg : Nat → Nat) (s e n c : Nat) (z : pz) (I : Nat → Int32) (J : Nat → Int64) (M : Nat → Nat → Int32) (W : Nat → Nat → Int64) (r : Option Value) (G' : pm_G) : Prop :=
  ∃ (P : Prop) (I' : Nat → Int32) (J' : Nat → Int64) (M' : Nat → Nat → Int32) (W' : Nat → Nat → Int64), r = some (.int (cI P)) ∧ mo_at G0 a A I' J' M' W' G' ∧ mp_fr I I' J J' M M' ∧ sn_fr (zSn z) M M' ∧ (¬ P → pz_fill sg s e n z = none) ∧ (P → ∃ fl c', st_P sg s e n c z I I' M M' W W' fl c')
theorem bkn_1 {z : pz} {li v x y o : Int32} {nl : Nat} {nf : Nat → Int32} {z2 : pz} : ¬ (bk_g (((sf_D 1 li v o x y, nl, nf, z2) : pf_T).1) ∧ ¬ zDp z < 8) := by
  rintro ⟨q | q | q, -⟩
  · exact absurd (show (1 : Int32) = 6 from q) (by decide)
  · exact absurd (show (1 : Int32) = 7 from q) (by decide)
  · exact absurd (show (1 : Int32) = 8 from q) (by decide)
theorem bkn_2 {z : pz} {li v x y o : Int32} {nl : Nat} {nf : Nat → Int32} {z2 : pz} : ¬ (bk_g (((sf_D 2 li v o x y, nl, nf, z2) : pf_T).1) ∧ ¬ zDp z < 8) := by
  rintro ⟨q | q | q, -⟩
  · exact absurd (show (2 : Int32) = 6 from q) (by decide)
  · exact absurd (show (2 : Int32) = 7 from q) (by decide)
  · exact absurd (show (2 : Int32) = 8 from q) (by decide)
theorem bkn_3 {z : pz} {li v x y o : Int32} {nl : Nat} {nf : Nat → Int32} {z2 : pz} : ¬ (bk_g (((sf_D 3 li v o x y, nl, nf, z2) : pf_T).1) ∧ ¬ zDp z < 8) := by
  rintro ⟨q | q | q, -⟩
  · exact absurd (show (3 : Int32) = 6 from q) (by decide)
  · exact absurd (show (3 : Int32) = 7 from q) (by decide)
  · exact absurd (show (3 : Int32) = 8 from q) (by decide)
theorem bkn_4 {z : pz} {li v x y o : Int32} {nl : Nat} {nf : Nat → Int32} {z2 : pz} : ¬ (bk_g (((sf_D 4 li v o x y, nl, nf, z2) : pf_T).1) ∧ ¬ zDp z < 8) := by
  rintro ⟨q | q | q, -⟩
  · exact absurd (show (4 : Int32) = 6 from q) (by decide)
  · exact absurd (show (4 : Int32) = 7 from q) (by decide)
  · exact absurd (show (4 : Int32) = 8 from q) (by decide)
theorem bkn_5 {z : pz} {li v x y o : Int32} {nl : Nat} {nf : Nat → Int32} {z2 : pz} : ¬ (bk_g (((sf_D 5 li v o x y, nl, nf, z2) : pf_T).1) ∧ ¬ zDp z < 8) := by
  rintro ⟨q | q | q, -⟩
  · exact absurd (show (5 : Int32) = 6 from q) (by decide)
  · exact absurd (show (5 : Int32) = 7 from q) (by decide)
  · exact absurd (show (5 : Int32) = 8 from q) (by decide)
theorem sw_0 {sn c : Nat} {W : Nat → Nat → Int64} : sw_fr sn c W W := ⟨fun _ _ => rfl, fun _ _ => rfl, fun _ _ => rfl⟩
theorem sw_27 {sn c : Nat} {W W' : Nat → Nat → Int64} {v : Int64} (h : sw_fr sn c W W') : sw_fr sn c W (va_up W' 27 (vp_updL (W' 27) sn v)) := ⟨fun j hj => (congrFun va_up_s j).trans ((pk_uLn hj).trans (h.1 j hj)), fun j hj => h.2.1 j hj, fun j hj => h.2.2 j hj⟩
theorem sw_28 {sn c : Nat} {W W' : Nat → Nat → Int64} {v : Int64} (h : sw_fr sn c W W') : sw_fr sn c W (va_up W' 28 (vp_updL (W' 28) sn v)) := ⟨fun j hj => h.1 j hj, fun j hj => (congrFun va_up_s j).trans ((pk_uLn hj).trans (h.2.1 j hj)), fun j hj => h.2.2 j hj⟩
theorem i64_le {x y : Int32} : x.toInt64 ≤ y.toInt64 ↔ x ≤ y := by rw [Int64.le_iff_toInt_le, Int32.le_iff_toInt_le, Int32.toInt_toInt64, Int32.toInt_toInt64]
theorem mn_c {lo hi x : Int32} {LO HI : Int64} (h1 : lo.toInt64 = LO) (h2 : hi.toInt64 = HI) : mn_ok LO HI x ↔ x ≠ -1000000 ∧ lo ≤ x ∧ x ≤ hi := by
  subst h1
  subst h2
  unfold mn_ok
  rw [i64_le, i64_le]
theorem mn_w {sg : Nat → Nat} {b f : Nat} : mn_ok (-999999) 999999 (nu_k sg b f) ↔ nu_k sg b f ≠ -1000000 := by
  rw [mn_c (lo := -999999) (hi := 999999) (by decide) (by decide)]
  exact ⟨fun h => h.1, fun h => ⟨h, nu_k_b.resolve_left h⟩⟩
theorem mn_f {x : Int32} : mn_ok 1 8 x ↔ 1 ≤ x ∧ x ≤ 8 := by
  rw [mn_c (lo := 1) (hi := 8) (by decide) (by decide)]
  exact ⟨fun h => h.2, fun h => ⟨fun q => by rw [q] at h; exact absurd h.1 (by decide), h⟩⟩
theorem mn_l {x : Int32} : mn_ok 1 20 x ↔ 1 ≤ x ∧ x ≤ 20 := by
  rw [mn_c (lo := 1) (hi := 20) (by decide) (by decide)]
  exact ⟨fun h => h.2, fun h => ⟨fun q => by rw [q] at h; exact absurd h.1 (by decide), h⟩⟩
theorem mn_t {x : Int32} : mn_ok 0 1000 x ↔ 0 ≤ x ∧ x ≤ 1000 := by
  rw [mn_c (lo := 0) (hi := 1000) (by decide) (by decide)]
  exact ⟨fun h => h.2, fun h => ⟨fun q => by rw [q] at h; exact absurd h.1 (by decide), h⟩⟩
theorem mn_d {w x : Int32} (hw : -999999 ≤ w) : mn_ok w.toInt64 999999 x ↔ w ≤ x ∧ x ≤ 999999 := by
  rw [mn_c (lo := w) (hi := 999999) rfl (by decide)]
  exact ⟨fun h => h.2, fun h => ⟨fun q => by rw [q] at h; exact absurd (Int32.le_trans hw h.1) (by decide), h⟩⟩
section SS
variable {l : Launch} {X : pm_X} {G G0 : pm_G} {a : Nat} {A : Nat → Nat} {I : Nat → Int32} {J : Nat → Int64} {M : Nat → Nat → Int32} {W : Nat → Nat → Int64} {sg : Nat → Nat} {s e n N c : Nat} {z : pz}

set_option maxHeartbeats 600000 in
theorem mo_s1 (hk : mk_ok sg M N) (hz : pz_b z) (h : mp_ok sg N c z I M W) (h6 : I 6 = nI e) (hse : s ≤ e) (hen : e ≤ N) (hn : N ≤ 4000) (hsn : zSn z < 1200) (h25 : M 25 (zSn z) = nI n) (h26 : M 26 (zSn z) = 0) (hc : 2 * c ≤ s) (h5 : I 5 = nI (w_w sg s e 0).2) (hkd : w_kd sg s e = 1) (hG : mo_at G0 a A I J (va_up M 24 (upd (M 24) (zSn z) 0)) W G) : ev_W l X m_Mo_step 4 0 0 (st_Q G0 a A sg s e n c z I J M W) 0 0 26 [(0, .ref a)] [] G := by
  obtain ⟨p1, p2, p3, p4, p5, p6, p7, p8, p9, p10, p11, p12⟩ := id h
  have z1 := hz.1
  have zk : ∀ i, i < zVn z → 0 < zVk z i := fun i hi => (hz.2.1 i hi).1
  have e0 := pf_1 (n := n) (z := z) hkd
  have hke := mk_le hk hen
  have b0 := (w_w_b (sg := sg) hse 0).2.2.1
  have b1 := (w_w_b (sg := sg) hse 1).2.2.1
  have b2 := (w_w_b (sg := sg) hse 2).2.2.1
  have b3 := (w_w_b (sg := sg) hse 3).2.2.1
  have b4 := (w_w_b (sg := sg) hse 4).2.2.1
  have c1 := wc_lt (sg := sg) hse (j := 1) (by omega)
  have c2 := wc_lt (sg := sg) hse (j := 2) (by omega)
  have c3 := wc_lt (sg := sg) hse (j := 3) (by omega)
  have c4 := wc_lt (sg := sg) hse (j := 4) (by omega)
  have c5 := wc_lt (sg := sg) hse (j := 5) (by omega)
  refine ev_aload_n d_Mo_step_26 rfl rfl ?_
  refine ev_callV0 d_Mo_step_27 ck_Mo_named ml_Mo_196 im_Mo_named se_Mo_named rfl hG.1 (c_Mo_named (b := (w_w sg s e 1).1) (f := (w_w sg s e 1).2) (vn := zVn z) (vk := zVk z) (sn := zSn z) hG (by (repeat (first | apply mk_up (h := by decide) | assumption))) h5 (by (repeat (first | apply va_up_t (h := by decide) | apply mo_w_t (h5 := by decide) (h7 := by decide) (h8 := by decide) | exact va_up_s | exact mo_w_5 | exact mo_w_7 | exact mo_w_8 | assumption)); all_goals rfl) b0 hen hn rfl rfl (by (repeat (first | apply va_up_t (h := by decide) | apply mo_w_t (h5 := by decide) (h7 := by decide) (h8 := by decide) | exact va_up_s | exact mo_w_5 | exact mo_w_7 | exact mo_w_8 | assumption)); all_goals rfl) z1 p6 (by (repeat (first | apply va_up_t (h := by decide) | apply mo_w_t (h5 := by decide) (h7 := by decide) (h8 := by decide) | exact va_up_s | exact mo_w_5 | exact mo_w_7 | exact mo_w_8 | assumption)); all_goals rfl) hsn) (by omega) (Nat.le_of_ble_eq_true rfl) (by omega) (by omega) ?_
  rintro _ G ⟨rfl, y, hG, hy⟩
  refine ev_if_eq 46 d_Mo_step_30 (by decide) (fun h0 => ?_) (fun h0 => ?_)
  · have h0 := cI_0 h0
    refine ev_iconst (v := 0) d_Mo_step_46 (by decide) ?_
    exact ev_zret d_Mo_step_47 rfl rfl ⟨False, _, _, _, _, by rw [cI_f id], hG, (by repeat (first | exact mp_fr.rf | refine mp_fr.wm ?_ | refine mp_fr.j ?_ | refine mp_fr.m ?_ (by decide) | refine mp_fr.i ?_ (by decide))), (by repeat (first | exact sn_fr.rf | refine sn_fr.up ?_ (by decide) | refine sn_fr.u18 ?_)), fun _ => by rw [e0, zIf_f (p := (w_c sg s e = 3 ∧ 0 < w_v sg s e z ∧ w_num sg s e 2 ≠ -1000000)) (fun q => h0 q.2.1)], fun q => q.elim⟩
  · have h0 := cI_1 h0
    have w1 := c1.mpr (nm_wx h0 zk)
    refine ev_aload_n d_Mo_step_33 rfl rfl ?_
    refine ev_ldc2 d_Mo_step_34 hw_1191 ?_
    refine ev_ldc2 d_Mo_step_37 hw_1192 ?_
    refine ev_callV2 d_Mo_step_40 ck_Mo_number ml_Mo_203 im_Mo_number se_Mo_number rfl hG.1 (c_Mo_number (e := e) (p := (w_w sg s e 1).2) (b := (w_w sg s e 2).1) (f := (w_w sg s e 2).2) hG (by (repeat (first | apply mk_up (h := by decide) | assumption))) (by (repeat (first | apply va_up_t (h := by decide) | apply mo_w_t (h5 := by decide) (h7 := by decide) (h8 := by decide) | exact va_up_s | exact mo_w_5 | exact mo_w_7 | exact mo_w_8 | assumption)); all_goals rfl) (by (repeat (first | apply va_up_t (h := by decide) | apply mo_w_t (h5 := by decide) (h7 := by decide) (h8 := by decide) | exact va_up_s | exact mo_w_5 | exact mo_w_7 | exact mo_w_8 | assumption)); all_goals rfl) b1 (by omega) rfl rfl) (by omega) (Nat.le_of_ble_eq_true rfl) (by omega) (by omega) ?_
    rintro _ G ⟨rfl, v, hG, hv⟩
    refine ev_if_ne 48 d_Mo_step_43 (by decide) (fun h1 => ?_) (fun h1 => ?_)
    · have h1 := cI_1 h1
      have hv := hv h1
      have w2 := c2.mpr (nu_wx h1.1)
      refine ev_aload_n d_Mo_step_48 rfl rfl ?_
      refine em_getA (i := 27) hG d_Mo_step_49 fo_Mo_56 rfl ?_
      refine ev_aload_n d_Mo_step_52 rfl rfl ?_
      refine em_getI (i := 23) hG d_Mo_step_53 fo_Mo_174 rfl (by (repeat (first | apply va_up_t (h := by decide) | apply mo_w_t (h5 := by decide) (h7 := by decide) (h8 := by decide) | exact va_up_s | exact mo_w_5 | exact mo_w_7 | exact mo_w_8 | assumption)); all_goals rfl) ?_
      refine ev_aload_n d_Mo_step_56 rfl rfl ?_
      refine em_getJ (i := 9) hG d_Mo_step_57 fo_Mo_150 rfl (by (repeat (first | apply va_up_t (h := by decide) | apply mo_w_t (h5 := by decide) (h7 := by decide) (h8 := by decide) | exact va_up_s | exact mo_w_5 | exact mo_w_7 | exact mo_w_8 | assumption)); all_goals rfl) ?_
      refine em_last (i := 27) (N := 1200) hG d_Mo_step_60 rfl rfl (by decide) (by omega) (fun G hG => ?_)
      refine ev_aload_n d_Mo_step_61 rfl rfl ?_
      refine ev_callV0 d_Mo_step_62 ck_Mo_through ml_Mo_184 im_Mo_through se_Mo_through rfl hG.1 (c_Mo_through (e := e) (p := (w_w sg s e 2).2) hG (by (repeat (first | apply mk_up (h := by decide) | assumption))) (by (repeat (first | apply va_up_t (h := by decide) | apply mo_w_t (h5 := by decide) (h7 := by decide) (h8 := by decide) | exact va_up_s | exact mo_w_5 | exact mo_w_7 | exact mo_w_8 | assumption)); all_goals rfl) (by (repeat (first | apply va_up_t (h := by decide) | apply mo_w_t (h5 := by decide) (h7 := by decide) (h8 := by decide) | exact va_up_s | exact mo_w_5 | exact mo_w_7 | exact mo_w_8 | assumption)); all_goals rfl) b2 (by omega)) (by omega) (Nat.le_of_ble_eq_true rfl) (by omega) (by omega) ?_
      rintro _ G ⟨rfl, hG⟩
      refine ev_zret d_Mo_step_65 rfl cI_n ⟨_, _, _, _, _, rfl, hG, (by repeat (first | exact mp_fr.rf | refine mp_fr.wm ?_ | refine mp_fr.j ?_ | refine mp_fr.m ?_ (by decide) | refine mp_fr.i ?_ (by decide))), (by repeat (first | exact sn_fr.rf | refine sn_fr.up ?_ (by decide) | refine sn_fr.u18 ?_)), fun q => ?_, fun q => ⟨(sf_D 1 (nI n) (nI (w_v sg s e z)) 0 (w_num sg s e 2) 0, 0, (fun _ => 0), z), c, (by (repeat (first | apply va_up_t (h := by decide) | apply mo_w_t (h5 := by decide) (h7 := by decide) (h8 := by decide) | exact va_up_s | exact mo_w_5 | exact mo_w_7 | exact mo_w_8 | assumption)); all_goals rfl), (by (repeat (first | apply va_up_t (h := by decide) | apply mo_w_t (h5 := by decide) (h7 := by decide) (h8 := by decide) | exact va_up_s | exact mo_w_5 | exact mo_w_7 | exact mo_w_8 | assumption)); all_goals rfl), (by (repeat (first | apply va_up_t (h := by decide) | apply mo_w_t (h5 := by decide) (h7 := by decide) (h8 := by decide) | exact va_up_s | exact mo_w_5 | exact mo_w_7 | exact mo_w_8 | assumption)); all_goals rfl), (by (repeat (first | apply va_up_t (h := by decide) | apply mo_w_t (h5 := by decide) (h7 := by decide) (h8 := by decide) | exact va_up_s | exact mo_w_5 | exact mo_w_7 | exact mo_w_8 | assumption)); all_goals rfl), (by (repeat (first | apply va_up_t (h := by decide) | apply mo_w_t (h5 := by decide) (h7 := by decide) (h8 := by decide) | exact va_up_s | exact mo_w_5 | exact mo_w_7 | exact mo_w_8 | assumption)); all_goals rfl), Nat.le_refl _, (by omega), ms_1 (by (repeat (first | apply va_up_mt (h := by decide) | apply va_up_ms | apply pk_ut (h := by omega) | apply pk_uLt (h := by omega) | exact pk_us | exact pk_uLs | assumption)); all_goals rfl) (h25 : _) (Eq.trans (b := y) (by (repeat (first | apply va_up_mt (h := by decide) | apply va_up_ms | apply pk_ut (h := by omega) | apply pk_uLt (h := by omega) | exact pk_us | exact pk_uLs | assumption)); all_goals rfl) (hy h0)) (Eq.trans (b := v) (by (repeat (first | apply va_up_mt (h := by decide) | apply va_up_ms | apply pk_ut (h := by omega) | apply pk_uLt (h := by omega) | exact pk_us | exact pk_uLs | assumption)); all_goals rfl) hv), sw_27 sw_0, rfl, rfl, fun _ => rfl, fun (y : (1 : Int32) = 8) => absurd y (by decide), ?_, 1, by decide, by decide, rfl⟩⟩
      · rw [e0, zIf_f (p := (w_c sg s e = 3 ∧ 0 < w_v sg s e z ∧ w_num sg s e 2 ≠ -1000000)) (fun y => q (fun w => by have := c3.mpr w; omega))]
      · have : ¬ 3 < w_c sg s e := fun y => q (c3.mp y)
        rw [e0, zIf_t (p := (w_c sg s e = 3 ∧ 0 < w_v sg s e z ∧ w_num sg s e 2 ≠ -1000000)) ⟨by omega, h0, h1.1⟩, zIf_f (bkn_1 (z := z))]
    · have h1 := cI_0 h1
      refine ev_iconst (v := 0) d_Mo_step_46 (by decide) ?_
      exact ev_zret d_Mo_step_47 rfl rfl ⟨False, _, _, _, _, by rw [cI_f id], hG, (by repeat (first | exact mp_fr.rf | refine mp_fr.wm ?_ | refine mp_fr.j ?_ | refine mp_fr.m ?_ (by decide) | refine mp_fr.i ?_ (by decide))), (by repeat (first | exact sn_fr.rf | refine sn_fr.up ?_ (by decide) | refine sn_fr.u18 ?_)), fun _ => by rw [e0, zIf_f (p := (w_c sg s e = 3 ∧ 0 < w_v sg s e z ∧ w_num sg s e 2 ≠ -1000000)) (fun q => h1 (mn_w.mpr q.2.2))], fun q => q.elim⟩
set_option maxHeartbeats 600000 in
theorem mo_s2 (hk : mk_ok sg M N) (hz : pz_b z) (h : mp_ok sg N c z I M W) (h6 : I 6 = nI e) (hse : s ≤ e) (hen : e ≤ N) (hn : N ≤ 4000) (hsn : zSn z < 1200) (h25 : M 25 (zSn z) = nI n) (h26 : M 26 (zSn z) = 0) (hc : 2 * c ≤ s) (h5 : I 5 = nI (w_w sg s e 0).2) (hkd : w_kd sg s e = 2) (hG : mo_at G0 a A I J (va_up M 24 (upd (M 24) (zSn z) 1)) W G) : ev_W l X m_Mo_step 4 0 0 (st_Q G0 a A sg s e n c z I J M W) 0 0 93 [(0, .ref a)] [] G := by
  obtain ⟨p1, p2, p3, p4, p5, p6, p7, p8, p9, p10, p11, p12⟩ := id h
  have z1 := hz.1
  have zk : ∀ i, i < zVn z → 0 < zVk z i := fun i hi => (hz.2.1 i hi).1
  have e0 := pf_2 (n := n) (z := z) hkd
  have hke := mk_le hk hen
  have b0 := (w_w_b (sg := sg) hse 0).2.2.1
  have b1 := (w_w_b (sg := sg) hse 1).2.2.1
  have b2 := (w_w_b (sg := sg) hse 2).2.2.1
  have b3 := (w_w_b (sg := sg) hse 3).2.2.1
  have b4 := (w_w_b (sg := sg) hse 4).2.2.1
  have c1 := wc_lt (sg := sg) hse (j := 1) (by omega)
  have c2 := wc_lt (sg := sg) hse (j := 2) (by omega)
  have c3 := wc_lt (sg := sg) hse (j := 3) (by omega)
  have c4 := wc_lt (sg := sg) hse (j := 4) (by omega)
  have c5 := wc_lt (sg := sg) hse (j := 5) (by omega)
  refine ev_aload_n d_Mo_step_93 rfl rfl ?_
  refine ev_callV0 d_Mo_step_94 ck_Mo_named ml_Mo_196 im_Mo_named se_Mo_named rfl hG.1 (c_Mo_named (b := (w_w sg s e 1).1) (f := (w_w sg s e 1).2) (vn := zVn z) (vk := zVk z) (sn := zSn z) hG (by (repeat (first | apply mk_up (h := by decide) | assumption))) h5 (by (repeat (first | apply va_up_t (h := by decide) | apply mo_w_t (h5 := by decide) (h7 := by decide) (h8 := by decide) | exact va_up_s | exact mo_w_5 | exact mo_w_7 | exact mo_w_8 | assumption)); all_goals rfl) b0 hen hn rfl rfl (by (repeat (first | apply va_up_t (h := by decide) | apply mo_w_t (h5 := by decide) (h7 := by decide) (h8 := by decide) | exact va_up_s | exact mo_w_5 | exact mo_w_7 | exact mo_w_8 | assumption)); all_goals rfl) z1 p6 (by (repeat (first | apply va_up_t (h := by decide) | apply mo_w_t (h5 := by decide) (h7 := by decide) (h8 := by decide) | exact va_up_s | exact mo_w_5 | exact mo_w_7 | exact mo_w_8 | assumption)); all_goals rfl) hsn) (by omega) (Nat.le_of_ble_eq_true rfl) (by omega) (by omega) ?_
  rintro _ G ⟨rfl, y, hG, hy⟩
  refine ev_if_eq 113 d_Mo_step_97 (by decide) (fun h0 => ?_) (fun h0 => ?_)
  · have h0 := cI_0 h0
    refine ev_iconst (v := 0) d_Mo_step_113 (by decide) ?_
    exact ev_zret d_Mo_step_114 rfl rfl ⟨False, _, _, _, _, by rw [cI_f id], hG, (by repeat (first | exact mp_fr.rf | refine mp_fr.wm ?_ | refine mp_fr.j ?_ | refine mp_fr.m ?_ (by decide) | refine mp_fr.i ?_ (by decide))), (by repeat (first | exact sn_fr.rf | refine sn_fr.up ?_ (by decide) | refine sn_fr.u18 ?_)), fun _ => by rw [e0, zIf_f (p := (w_c sg s e = 4 ∧ 0 < w_v sg s e z ∧ w_num sg s e 2 ≠ -1000000 ∧ w_num sg s e 2 ≤ w_num sg s e 3 ∧ w_num sg s e 3 ≤ 999999)) (fun q => h0 q.2.1)], fun q => q.elim⟩
  · have h0 := cI_1 h0
    have w1 := c1.mpr (nm_wx h0 zk)
    refine ev_aload_n d_Mo_step_100 rfl rfl ?_
    refine ev_ldc2 d_Mo_step_101 hw_1191 ?_
    refine ev_ldc2 d_Mo_step_104 hw_1192 ?_
    refine ev_callV2 d_Mo_step_107 ck_Mo_number ml_Mo_203 im_Mo_number se_Mo_number rfl hG.1 (c_Mo_number (e := e) (p := (w_w sg s e 1).2) (b := (w_w sg s e 2).1) (f := (w_w sg s e 2).2) hG (by (repeat (first | apply mk_up (h := by decide) | assumption))) (by (repeat (first | apply va_up_t (h := by decide) | apply mo_w_t (h5 := by decide) (h7 := by decide) (h8 := by decide) | exact va_up_s | exact mo_w_5 | exact mo_w_7 | exact mo_w_8 | assumption)); all_goals rfl) (by (repeat (first | apply va_up_t (h := by decide) | apply mo_w_t (h5 := by decide) (h7 := by decide) (h8 := by decide) | exact va_up_s | exact mo_w_5 | exact mo_w_7 | exact mo_w_8 | assumption)); all_goals rfl) b1 (by omega) rfl rfl) (by omega) (Nat.le_of_ble_eq_true rfl) (by omega) (by omega) ?_
    rintro _ G ⟨rfl, v, hG, hv⟩
    refine ev_if_ne 115 d_Mo_step_110 (by decide) (fun h1 => ?_) (fun h1 => ?_)
    · have h1 := cI_1 h1
      have hv := hv h1
      have w2 := c2.mpr (nu_wx h1.1)
      refine ev_aload_n d_Mo_step_115 rfl rfl ?_
      refine em_getA (i := 27) hG d_Mo_step_116 fo_Mo_56 rfl ?_
      refine ev_aload_n d_Mo_step_119 rfl rfl ?_
      refine em_getI (i := 23) hG d_Mo_step_120 fo_Mo_174 rfl (by (repeat (first | apply va_up_t (h := by decide) | apply mo_w_t (h5 := by decide) (h7 := by decide) (h8 := by decide) | exact va_up_s | exact mo_w_5 | exact mo_w_7 | exact mo_w_8 | assumption)); all_goals rfl) ?_
      refine ev_aload_n d_Mo_step_123 rfl rfl ?_
      refine em_getJ (i := 9) hG d_Mo_step_124 fo_Mo_150 rfl (by (repeat (first | apply va_up_t (h := by decide) | apply mo_w_t (h5 := by decide) (h7 := by decide) (h8 := by decide) | exact va_up_s | exact mo_w_5 | exact mo_w_7 | exact mo_w_8 | assumption)); all_goals rfl) ?_
      refine em_last (i := 27) (N := 1200) hG d_Mo_step_127 rfl rfl (by decide) (by omega) (fun G hG => ?_)
      refine ev_aload_n d_Mo_step_128 rfl rfl ?_
      refine ev_aload_n d_Mo_step_129 rfl rfl ?_
      refine em_getA (i := 27) hG d_Mo_step_130 fo_Mo_56 rfl ?_
      refine ev_aload_n d_Mo_step_133 rfl rfl ?_
      refine em_getI (i := 23) hG d_Mo_step_134 fo_Mo_174 rfl (by (repeat (first | apply va_up_t (h := by decide) | apply mo_w_t (h5 := by decide) (h7 := by decide) (h8 := by decide) | exact va_up_s | exact mo_w_5 | exact mo_w_7 | exact mo_w_8 | assumption)); all_goals rfl) ?_
      refine em_lald (i := 27) (N := 1200) hG d_Mo_step_137 rfl rfl (by decide) (by omega) (by (repeat (first | apply va_up_mt (h := by decide) | apply va_up_ms | apply pk_ut (h := by omega) | apply pk_uLt (h := by omega) | exact pk_us | exact pk_uLs | assumption)); all_goals rfl) ?_
      refine ev_ldc2 d_Mo_step_138 hw_1192 ?_
      refine ev_callV2 d_Mo_step_141 ck_Mo_number ml_Mo_203 im_Mo_number se_Mo_number rfl hG.1 (c_Mo_number (e := e) (p := (w_w sg s e 2).2) (b := (w_w sg s e 3).1) (f := (w_w sg s e 3).2) hG (by (repeat (first | apply mk_up (h := by decide) | assumption))) (by (repeat (first | apply va_up_t (h := by decide) | apply mo_w_t (h5 := by decide) (h7 := by decide) (h8 := by decide) | exact va_up_s | exact mo_w_5 | exact mo_w_7 | exact mo_w_8 | assumption)); all_goals rfl) (by (repeat (first | apply va_up_t (h := by decide) | apply mo_w_t (h5 := by decide) (h7 := by decide) (h8 := by decide) | exact va_up_s | exact mo_w_5 | exact mo_w_7 | exact mo_w_8 | assumption)); all_goals rfl) b2 (by omega) rfl rfl) (by omega) (Nat.le_of_ble_eq_true rfl) (by omega) (by omega) ?_
      rintro _ G ⟨rfl, v2, hG, hv2⟩
      rw [va_up2] at hG
      refine ev_if_ne 149 d_Mo_step_144 (by decide) (fun h2 => ?_) (fun h2 => ?_)
      · have h2 := cI_1 h2
        have hv2 := hv2 h2
        have w3 := c3.mpr (nu_wx h2.1)
        refine ev_aload_n d_Mo_step_149 rfl rfl ?_
        refine em_getA (i := 28) hG d_Mo_step_150 fo_Mo_59 rfl ?_
        refine ev_aload_n d_Mo_step_153 rfl rfl ?_
        refine em_getI (i := 23) hG d_Mo_step_154 fo_Mo_174 rfl (by (repeat (first | apply va_up_t (h := by decide) | apply mo_w_t (h5 := by decide) (h7 := by decide) (h8 := by decide) | exact va_up_s | exact mo_w_5 | exact mo_w_7 | exact mo_w_8 | assumption)); all_goals rfl) ?_
        refine ev_aload_n d_Mo_step_157 rfl rfl ?_
        refine em_getJ (i := 9) hG d_Mo_step_158 fo_Mo_150 rfl (by (repeat (first | apply va_up_t (h := by decide) | apply mo_w_t (h5 := by decide) (h7 := by decide) (h8 := by decide) | exact va_up_s | exact mo_w_5 | exact mo_w_7 | exact mo_w_8 | assumption)); all_goals rfl) ?_
        refine em_last (i := 28) (N := 1200) hG d_Mo_step_161 rfl rfl (by decide) (by omega) (fun G hG => ?_)
        refine ev_aload_n d_Mo_step_162 rfl rfl ?_
        refine ev_callV0 d_Mo_step_163 ck_Mo_through ml_Mo_184 im_Mo_through se_Mo_through rfl hG.1 (c_Mo_through (e := e) (p := (w_w sg s e 3).2) hG (by (repeat (first | apply mk_up (h := by decide) | assumption))) (by (repeat (first | apply va_up_t (h := by decide) | apply mo_w_t (h5 := by decide) (h7 := by decide) (h8 := by decide) | exact va_up_s | exact mo_w_5 | exact mo_w_7 | exact mo_w_8 | assumption)); all_goals rfl) (by (repeat (first | apply va_up_t (h := by decide) | apply mo_w_t (h5 := by decide) (h7 := by decide) (h8 := by decide) | exact va_up_s | exact mo_w_5 | exact mo_w_7 | exact mo_w_8 | assumption)); all_goals rfl) b3 (by omega)) (by omega) (Nat.le_of_ble_eq_true rfl) (by omega) (by omega) ?_
        rintro _ G ⟨rfl, hG⟩
        have hd2 : mn_ok (w_num sg s e 2).toInt64 999999 (w_num sg s e 3) := by rw [← show v = (w_num sg s e 2).toInt64 from hv]; exact h2
        have g1 : w_num sg s e 2 ≤ w_num sg s e 3 := ((mn_d (w_num_b h1.1).1).mp hd2).1
        have g2 : w_num sg s e 3 ≤ 999999 := ((mn_d (w_num_b h1.1).1).mp hd2).2
        refine ev_zret d_Mo_step_166 rfl cI_n ⟨_, _, _, _, _, rfl, hG, (by repeat (first | exact mp_fr.rf | refine mp_fr.wm ?_ | refine mp_fr.j ?_ | refine mp_fr.m ?_ (by decide) | refine mp_fr.i ?_ (by decide))), (by repeat (first | exact sn_fr.rf | refine sn_fr.up ?_ (by decide) | refine sn_fr.u18 ?_)), fun q => ?_, fun q => ⟨(sf_D 2 (nI n) (nI (w_v sg s e z)) 0 (w_num sg s e 2) (w_num sg s e 3), 0, (fun _ => 0), z), c, (by (repeat (first | apply va_up_t (h := by decide) | apply mo_w_t (h5 := by decide) (h7 := by decide) (h8 := by decide) | exact va_up_s | exact mo_w_5 | exact mo_w_7 | exact mo_w_8 | assumption)); all_goals rfl), (by (repeat (first | apply va_up_t (h := by decide) | apply mo_w_t (h5 := by decide) (h7 := by decide) (h8 := by decide) | exact va_up_s | exact mo_w_5 | exact mo_w_7 | exact mo_w_8 | assumption)); all_goals rfl), (by (repeat (first | apply va_up_t (h := by decide) | apply mo_w_t (h5 := by decide) (h7 := by decide) (h8 := by decide) | exact va_up_s | exact mo_w_5 | exact mo_w_7 | exact mo_w_8 | assumption)); all_goals rfl), (by (repeat (first | apply va_up_t (h := by decide) | apply mo_w_t (h5 := by decide) (h7 := by decide) (h8 := by decide) | exact va_up_s | exact mo_w_5 | exact mo_w_7 | exact mo_w_8 | assumption)); all_goals rfl), (by (repeat (first | apply va_up_t (h := by decide) | apply mo_w_t (h5 := by decide) (h7 := by decide) (h8 := by decide) | exact va_up_s | exact mo_w_5 | exact mo_w_7 | exact mo_w_8 | assumption)); all_goals rfl), Nat.le_refl _, (by omega), ms_2 (by (repeat (first | apply va_up_mt (h := by decide) | apply va_up_ms | apply pk_ut (h := by omega) | apply pk_uLt (h := by omega) | exact pk_us | exact pk_uLs | assumption)); all_goals rfl) (h25 : _) (Eq.trans (b := y) (by (repeat (first | apply va_up_mt (h := by decide) | apply va_up_ms | apply pk_ut (h := by omega) | apply pk_uLt (h := by omega) | exact pk_us | exact pk_uLs | assumption)); all_goals rfl) (hy h0)) (Eq.trans (b := v) (by (repeat (first | apply va_up_mt (h := by decide) | apply va_up_ms | apply pk_ut (h := by omega) | apply pk_uLt (h := by omega) | exact pk_us | exact pk_uLs | assumption)); all_goals rfl) hv) (Eq.trans (b := v2) (by (repeat (first | apply va_up_mt (h := by decide) | apply va_up_ms | apply pk_ut (h := by omega) | apply pk_uLt (h := by omega) | exact pk_us | exact pk_uLs | assumption)); all_goals rfl) hv2), sw_28 (sw_27 sw_0), rfl, rfl, fun _ => rfl, fun (y : (2 : Int32) = 8) => absurd y (by decide), ?_, 2, by decide, by decide, rfl⟩⟩
        · rw [e0, zIf_f (p := (w_c sg s e = 4 ∧ 0 < w_v sg s e z ∧ w_num sg s e 2 ≠ -1000000 ∧ w_num sg s e 2 ≤ w_num sg s e 3 ∧ w_num sg s e 3 ≤ 999999)) (fun y => q (fun w => by have := c4.mpr w; omega))]
        · have : ¬ 4 < w_c sg s e := fun y => q (c4.mp y)
          rw [e0, zIf_t (p := (w_c sg s e = 4 ∧ 0 < w_v sg s e z ∧ w_num sg s e 2 ≠ -1000000 ∧ w_num sg s e 2 ≤ w_num sg s e 3 ∧ w_num sg s e 3 ≤ 999999)) ⟨by omega, h0, h1.1, g1, g2⟩, zIf_f (bkn_2 (z := z))]
      · have h2 := cI_0 h2
        refine ev_iconst (v := 0) d_Mo_step_147 (by decide) ?_
        exact ev_zret d_Mo_step_148 rfl rfl ⟨False, _, _, _, _, by rw [cI_f id], hG, (by repeat (first | exact mp_fr.rf | refine mp_fr.wm ?_ | refine mp_fr.j ?_ | refine mp_fr.m ?_ (by decide) | refine mp_fr.i ?_ (by decide))), (by repeat (first | exact sn_fr.rf | refine sn_fr.up ?_ (by decide) | refine sn_fr.u18 ?_)), fun _ => by rw [e0, zIf_f (p := (w_c sg s e = 4 ∧ 0 < w_v sg s e z ∧ w_num sg s e 2 ≠ -1000000 ∧ w_num sg s e 2 ≤ w_num sg s e 3 ∧ w_num sg s e 3 ≤ 999999)) (fun q => h2 (by rw [show v = (w_num sg s e 2).toInt64 from hv]; exact (mn_d (w_num_b h1.1).1).mpr ⟨q.2.2.2.1, q.2.2.2.2⟩))], fun q => q.elim⟩
    · have h1 := cI_0 h1
      refine ev_iconst (v := 0) d_Mo_step_113 (by decide) ?_
      exact ev_zret d_Mo_step_114 rfl rfl ⟨False, _, _, _, _, by rw [cI_f id], hG, (by repeat (first | exact mp_fr.rf | refine mp_fr.wm ?_ | refine mp_fr.j ?_ | refine mp_fr.m ?_ (by decide) | refine mp_fr.i ?_ (by decide))), (by repeat (first | exact sn_fr.rf | refine sn_fr.up ?_ (by decide) | refine sn_fr.u18 ?_)), fun _ => by rw [e0, zIf_f (p := (w_c sg s e = 4 ∧ 0 < w_v sg s e z ∧ w_num sg s e 2 ≠ -1000000 ∧ w_num sg s e 2 ≤ w_num sg s e 3 ∧ w_num sg s e 3 ≤ 999999)) (fun q => h1 (mn_w.mpr q.2.2.1))], fun q => q.elim⟩
set_option maxHeartbeats 600000 in
theorem mo_s3 (hk : mk_ok sg M N) (hz : pz_b z) (h : mp_ok sg N c z I M W) (h6 : I 6 = nI e) (hse : s ≤ e) (hen : e ≤ N) (hn : N ≤ 4000) (hsn : zSn z < 1200) (h25 : M 25 (zSn z) = nI n) (h26 : M 26 (zSn z) = 0) (hc : 2 * c ≤ s) (h5 : I 5 = nI (w_w sg s e 0).2) (hkd : w_kd sg s e = 3) (hG : mo_at G0 a A I J (va_up M 24 (upd (M 24) (zSn z) 3)) W G) : ev_W l X m_Mo_step 4 0 0 (st_Q G0 a A sg s e n c z I J M W) 0 0 222 [(0, .ref a), (1, .int 1)] [] G := by
  obtain ⟨p1, p2, p3, p4, p5, p6, p7, p8, p9, p10, p11, p12⟩ := id h
  have z1 := hz.1
  have zk : ∀ i, i < zVn z → 0 < zVk z i := fun i hi => (hz.2.1 i hi).1
  have e0 := pf_3 (n := n) (z := z) hkd
  have hke := mk_le hk hen
  have b0 := (w_w_b (sg := sg) hse 0).2.2.1
  have b1 := (w_w_b (sg := sg) hse 1).2.2.1
  have b2 := (w_w_b (sg := sg) hse 2).2.2.1
  have b3 := (w_w_b (sg := sg) hse 3).2.2.1
  have b4 := (w_w_b (sg := sg) hse 4).2.2.1
  have c1 := wc_lt (sg := sg) hse (j := 1) (by omega)
  have c2 := wc_lt (sg := sg) hse (j := 2) (by omega)
  have c3 := wc_lt (sg := sg) hse (j := 3) (by omega)
  have c4 := wc_lt (sg := sg) hse (j := 4) (by omega)
  have c5 := wc_lt (sg := sg) hse (j := 5) (by omega)
  refine ev_aload_n d_Mo_step_222 rfl rfl ?_
  refine ev_callV0 d_Mo_step_223 ck_Mo_named ml_Mo_196 im_Mo_named se_Mo_named rfl hG.1 (c_Mo_named (b := (w_w sg s e 1).1) (f := (w_w sg s e 1).2) (vn := zVn z) (vk := zVk z) (sn := zSn z) hG (by (repeat (first | apply mk_up (h := by decide) | assumption))) h5 (by (repeat (first | apply va_up_t (h := by decide) | apply mo_w_t (h5 := by decide) (h7 := by decide) (h8 := by decide) | exact va_up_s | exact mo_w_5 | exact mo_w_7 | exact mo_w_8 | assumption)); all_goals rfl) b0 hen hn rfl rfl (by (repeat (first | apply va_up_t (h := by decide) | apply mo_w_t (h5 := by decide) (h7 := by decide) (h8 := by decide) | exact va_up_s | exact mo_w_5 | exact mo_w_7 | exact mo_w_8 | assumption)); all_goals rfl) z1 p6 (by (repeat (first | apply va_up_t (h := by decide) | apply mo_w_t (h5 := by decide) (h7 := by decide) (h8 := by decide) | exact va_up_s | exact mo_w_5 | exact mo_w_7 | exact mo_w_8 | assumption)); all_goals rfl) hsn) (by omega) (Nat.le_of_ble_eq_true rfl) (by omega) (by omega) ?_
  rintro _ G ⟨rfl, y, hG, hy⟩
  refine ev_if_eq 249 d_Mo_step_226 (by decide) (fun h0 => ?_) (fun h0 => ?_)
  · have h0 := cI_0 h0
    refine ev_iconst (v := 0) d_Mo_step_249 (by decide) ?_
    exact ev_zret d_Mo_step_250 rfl rfl ⟨False, _, _, _, _, by rw [cI_f id], hG, (by repeat (first | exact mp_fr.rf | refine mp_fr.wm ?_ | refine mp_fr.j ?_ | refine mp_fr.m ?_ (by decide) | refine mp_fr.i ?_ (by decide))), (by repeat (first | exact sn_fr.rf | refine sn_fr.up ?_ (by decide) | refine sn_fr.u18 ?_)), fun _ => by rw [e0, zIf_f (p := (w_c sg s e = 5 ∧ w_op sg s e 2 ≠ 0 ∧ 0 < w_v sg s e z ∧ w_num sg s e 3 ≠ -1000000 ∧ 0 ≤ w_num sg s e 4 ∧ w_num sg s e 4 ≤ 1000)) (fun q => h0 q.2.2.1)], fun q => q.elim⟩
  · have h0 := cI_1 h0
    have w1 := c1.mpr (nm_wx h0 zk)
    refine ev_aload_n d_Mo_step_229 rfl rfl ?_
    refine ev_callV0 d_Mo_step_230 ck_Mo_operator ml_Mo_206 im_Mo_operator se_Mo_operator rfl hG.1 (c_Mo_operator (e := e) (p := (w_w sg s e 1).2) (b := (w_w sg s e 2).1) (f := (w_w sg s e 2).2) (sn := zSn z) hG (by (repeat (first | apply mk_up (h := by decide) | assumption))) (by (repeat (first | apply va_up_t (h := by decide) | apply mo_w_t (h5 := by decide) (h7 := by decide) (h8 := by decide) | exact va_up_s | exact mo_w_5 | exact mo_w_7 | exact mo_w_8 | assumption)); all_goals rfl) (by (repeat (first | apply va_up_t (h := by decide) | apply mo_w_t (h5 := by decide) (h7 := by decide) (h8 := by decide) | exact va_up_s | exact mo_w_5 | exact mo_w_7 | exact mo_w_8 | assumption)); all_goals rfl) b1 (by omega) rfl rfl (by (repeat (first | apply va_up_t (h := by decide) | apply mo_w_t (h5 := by decide) (h7 := by decide) (h8 := by decide) | exact va_up_s | exact mo_w_5 | exact mo_w_7 | exact mo_w_8 | assumption)); all_goals rfl) hsn) (by omega) (Nat.le_of_ble_eq_true rfl) (by omega) (by omega) ?_
    rintro _ G ⟨rfl, o, hG, ho⟩
    refine ev_if_eq 249 d_Mo_step_233 (by decide) (fun ho0 => ?_) (fun ho0 => ?_)
    · have ho0 := cI_0 ho0
      refine ev_iconst (v := 0) d_Mo_step_249 (by decide) ?_
      exact ev_zret d_Mo_step_250 rfl rfl ⟨False, _, _, _, _, by rw [cI_f id], hG, (by repeat (first | exact mp_fr.rf | refine mp_fr.wm ?_ | refine mp_fr.j ?_ | refine mp_fr.m ?_ (by decide) | refine mp_fr.i ?_ (by decide))), (by repeat (first | exact sn_fr.rf | refine sn_fr.up ?_ (by decide) | refine sn_fr.u18 ?_)), fun _ => by rw [e0, zIf_f (p := (w_c sg s e = 5 ∧ w_op sg s e 2 ≠ 0 ∧ 0 < w_v sg s e z ∧ w_num sg s e 3 ≠ -1000000 ∧ 0 ≤ w_num sg s e 4 ∧ w_num sg s e 4 ≤ 1000)) (fun q => ho0 q.2.1)], fun q => q.elim⟩
    · have ho0 := cI_1 ho0
      have ho := ho ho0
      have w2 := c2.mpr (op_wx ho0)
      refine ev_aload_n d_Mo_step_236 rfl rfl ?_
      refine ev_ldc2 d_Mo_step_237 hw_1191 ?_
      refine ev_ldc2 d_Mo_step_240 hw_1192 ?_
      refine ev_callV2 d_Mo_step_243 ck_Mo_number ml_Mo_203 im_Mo_number se_Mo_number rfl hG.1 (c_Mo_number (e := e) (p := (w_w sg s e 2).2) (b := (w_w sg s e 3).1) (f := (w_w sg s e 3).2) hG (by (repeat (first | apply mk_up (h := by decide) | assumption))) (by (repeat (first | apply va_up_t (h := by decide) | apply mo_w_t (h5 := by decide) (h7 := by decide) (h8 := by decide) | exact va_up_s | exact mo_w_5 | exact mo_w_7 | exact mo_w_8 | assumption)); all_goals rfl) (by (repeat (first | apply va_up_t (h := by decide) | apply mo_w_t (h5 := by decide) (h7 := by decide) (h8 := by decide) | exact va_up_s | exact mo_w_5 | exact mo_w_7 | exact mo_w_8 | assumption)); all_goals rfl) b2 (by omega) rfl rfl) (by omega) (Nat.le_of_ble_eq_true rfl) (by omega) (by omega) ?_
      rintro _ G ⟨rfl, v, hG, hv⟩
      refine ev_if_ne 251 d_Mo_step_246 (by decide) (fun h1 => ?_) (fun h1 => ?_)
      · have h1 := cI_1 h1
        have hv := hv h1
        have w3 := c3.mpr (nu_wx h1.1)
        refine ev_aload_n d_Mo_step_251 rfl rfl ?_
        refine em_getA (i := 27) hG d_Mo_step_252 fo_Mo_56 rfl ?_
        refine ev_aload_n d_Mo_step_255 rfl rfl ?_
        refine em_getI (i := 23) hG d_Mo_step_256 fo_Mo_174 rfl (by (repeat (first | apply va_up_t (h := by decide) | apply mo_w_t (h5 := by decide) (h7 := by decide) (h8 := by decide) | exact va_up_s | exact mo_w_5 | exact mo_w_7 | exact mo_w_8 | assumption)); all_goals rfl) ?_
        refine ev_aload_n d_Mo_step_259 rfl rfl ?_
        refine em_getJ (i := 9) hG d_Mo_step_260 fo_Mo_150 rfl (by (repeat (first | apply va_up_t (h := by decide) | apply mo_w_t (h5 := by decide) (h7 := by decide) (h8 := by decide) | exact va_up_s | exact mo_w_5 | exact mo_w_7 | exact mo_w_8 | assumption)); all_goals rfl) ?_
        refine em_last (i := 27) (N := 1200) hG d_Mo_step_263 rfl rfl (by decide) (by omega) (fun G hG => ?_)
        refine ev_iload_n d_Mo_step_264 rfl rfl ?_
        refine ev_if_eq 281 d_Mo_step_265 (by decide) (fun y => absurd y (by decide)) (fun _ => ?_)
        refine ev_aload_n d_Mo_step_268 rfl rfl ?_
        refine ev_lconst (v := 0) d_Mo_step_269 (by decide) ?_
        refine ev_ldc2 d_Mo_step_270 hw_1203 ?_
        refine ev_callV2 d_Mo_step_273 ck_Mo_number ml_Mo_203 im_Mo_number se_Mo_number rfl hG.1 (c_Mo_number (e := e) (p := (w_w sg s e 3).2) (b := (w_w sg s e 4).1) (f := (w_w sg s e 4).2) hG (by (repeat (first | apply mk_up (h := by decide) | assumption))) (by (repeat (first | apply va_up_t (h := by decide) | apply mo_w_t (h5 := by decide) (h7 := by decide) (h8 := by decide) | exact va_up_s | exact mo_w_5 | exact mo_w_7 | exact mo_w_8 | assumption)); all_goals rfl) (by (repeat (first | apply va_up_t (h := by decide) | apply mo_w_t (h5 := by decide) (h7 := by decide) (h8 := by decide) | exact va_up_s | exact mo_w_5 | exact mo_w_7 | exact mo_w_8 | assumption)); all_goals rfl) b3 (by omega) rfl rfl) (by omega) (Nat.le_of_ble_eq_true rfl) (by omega) (by omega) ?_
        rintro _ G ⟨rfl, v2, hG, hv2⟩
        rw [va_up2] at hG
        refine ev_if_ne 281 d_Mo_step_276 (by decide) (fun h2 => ?_) (fun h2 => ?_)
        · have h2 := cI_1 h2
          have hv2 := hv2 h2
          have w4 := c4.mpr (nu_wx h2.1)
          refine ev_aload_n d_Mo_step_281 rfl rfl ?_
          refine em_getA (i := 28) hG d_Mo_step_282 fo_Mo_59 rfl ?_
          refine ev_aload_n d_Mo_step_285 rfl rfl ?_
          refine em_getI (i := 23) hG d_Mo_step_286 fo_Mo_174 rfl (by (repeat (first | apply va_up_t (h := by decide) | apply mo_w_t (h5 := by decide) (h7 := by decide) (h8 := by decide) | exact va_up_s | exact mo_w_5 | exact mo_w_7 | exact mo_w_8 | assumption)); all_goals rfl) ?_
          refine ev_aload_n d_Mo_step_289 rfl rfl ?_
          refine em_getJ (i := 9) hG d_Mo_step_290 fo_Mo_150 rfl (by (repeat (first | apply va_up_t (h := by decide) | apply mo_w_t (h5 := by decide) (h7 := by decide) (h8 := by decide) | exact va_up_s | exact mo_w_5 | exact mo_w_7 | exact mo_w_8 | assumption)); all_goals rfl) ?_
          refine em_last (i := 28) (N := 1200) hG d_Mo_step_293 rfl rfl (by decide) (by omega) (fun G hG => ?_)
          refine ev_aload_n d_Mo_step_294 rfl rfl ?_
          refine ev_callV0 d_Mo_step_295 ck_Mo_through ml_Mo_184 im_Mo_through se_Mo_through rfl hG.1 (c_Mo_through (e := e) (p := (w_w sg s e 4).2) hG (by (repeat (first | apply mk_up (h := by decide) | assumption))) (by (repeat (first | apply va_up_t (h := by decide) | apply mo_w_t (h5 := by decide) (h7 := by decide) (h8 := by decide) | exact va_up_s | exact mo_w_5 | exact mo_w_7 | exact mo_w_8 | assumption)); all_goals rfl) (by (repeat (first | apply va_up_t (h := by decide) | apply mo_w_t (h5 := by decide) (h7 := by decide) (h8 := by decide) | exact va_up_s | exact mo_w_5 | exact mo_w_7 | exact mo_w_8 | assumption)); all_goals rfl) b4 (by omega)) (by omega) (Nat.le_of_ble_eq_true rfl) (by omega) (by omega) ?_
          rintro _ G ⟨rfl, hG⟩
          have g1 : 0 ≤ w_num sg s e 4 := (mn_t.mp h2).1
          have g2 : w_num sg s e 4 ≤ 1000 := (mn_t.mp h2).2
          refine ev_zret d_Mo_step_298 rfl cI_n ⟨_, _, _, _, _, rfl, hG, (by repeat (first | exact mp_fr.rf | refine mp_fr.wm ?_ | refine mp_fr.j ?_ | refine mp_fr.m ?_ (by decide) | refine mp_fr.i ?_ (by decide))), (by repeat (first | exact sn_fr.rf | refine sn_fr.up ?_ (by decide) | refine sn_fr.u18 ?_)), fun q => ?_, fun q => ⟨(sf_D 3 (nI n) (nI (w_v sg s e z)) (w_op sg s e 2) (w_num sg s e 3) (w_num sg s e 4), 0, (fun _ => 0), z), c, (by (repeat (first | apply va_up_t (h := by decide) | apply mo_w_t (h5 := by decide) (h7 := by decide) (h8 := by decide) | exact va_up_s | exact mo_w_5 | exact mo_w_7 | exact mo_w_8 | assumption)); all_goals rfl), (by (repeat (first | apply va_up_t (h := by decide) | apply mo_w_t (h5 := by decide) (h7 := by decide) (h8 := by decide) | exact va_up_s | exact mo_w_5 | exact mo_w_7 | exact mo_w_8 | assumption)); all_goals rfl), (by (repeat (first | apply va_up_t (h := by decide) | apply mo_w_t (h5 := by decide) (h7 := by decide) (h8 := by decide) | exact va_up_s | exact mo_w_5 | exact mo_w_7 | exact mo_w_8 | assumption)); all_goals rfl), (by (repeat (first | apply va_up_t (h := by decide) | apply mo_w_t (h5 := by decide) (h7 := by decide) (h8 := by decide) | exact va_up_s | exact mo_w_5 | exact mo_w_7 | exact mo_w_8 | assumption)); all_goals rfl), (by (repeat (first | apply va_up_t (h := by decide) | apply mo_w_t (h5 := by decide) (h7 := by decide) (h8 := by decide) | exact va_up_s | exact mo_w_5 | exact mo_w_7 | exact mo_w_8 | assumption)); all_goals rfl), Nat.le_refl _, (by omega), ms_3 (by (repeat (first | apply va_up_mt (h := by decide) | apply va_up_ms | apply pk_ut (h := by omega) | apply pk_uLt (h := by omega) | exact pk_us | exact pk_uLs | assumption)); all_goals rfl) (h25 : _) (Eq.trans (b := y) (by (repeat (first | apply va_up_mt (h := by decide) | apply va_up_ms | apply pk_ut (h := by omega) | apply pk_uLt (h := by omega) | exact pk_us | exact pk_uLs | assumption)); all_goals rfl) (hy h0)) (Eq.trans (b := v) (by (repeat (first | apply va_up_mt (h := by decide) | apply va_up_ms | apply pk_ut (h := by omega) | apply pk_uLt (h := by omega) | exact pk_us | exact pk_uLs | assumption)); all_goals rfl) hv) (Eq.trans (b := v2) (by (repeat (first | apply va_up_mt (h := by decide) | apply va_up_ms | apply pk_ut (h := by omega) | apply pk_uLt (h := by omega) | exact pk_us | exact pk_uLs | assumption)); all_goals rfl) hv2) (Eq.trans (b := o) (by (repeat (first | apply va_up_mt (h := by decide) | apply va_up_ms | apply pk_ut (h := by omega) | apply pk_uLt (h := by omega) | exact pk_us | exact pk_uLs | assumption)); all_goals rfl) ho), sw_28 (sw_27 sw_0), rfl, rfl, fun _ => rfl, fun (y : (3 : Int32) = 8) => absurd y (by decide), ?_, 3, by decide, by decide, rfl⟩⟩
          · rw [e0, zIf_f (p := (w_c sg s e = 5 ∧ w_op sg s e 2 ≠ 0 ∧ 0 < w_v sg s e z ∧ w_num sg s e 3 ≠ -1000000 ∧ 0 ≤ w_num sg s e 4 ∧ w_num sg s e 4 ≤ 1000)) (fun y => q (fun w => by have := c5.mpr w; omega))]
          · have : ¬ 5 < w_c sg s e := fun y => q (c5.mp y)
            rw [e0, zIf_t (p := (w_c sg s e = 5 ∧ w_op sg s e 2 ≠ 0 ∧ 0 < w_v sg s e z ∧ w_num sg s e 3 ≠ -1000000 ∧ 0 ≤ w_num sg s e 4 ∧ w_num sg s e 4 ≤ 1000)) ⟨by omega, ho0, h0, h1.1, g1, g2⟩, zIf_f (bkn_3 (z := z))]
        · have h2 := cI_0 h2
          refine ev_iconst (v := 0) d_Mo_step_279 (by decide) ?_
          exact ev_zret d_Mo_step_280 rfl rfl ⟨False, _, _, _, _, by rw [cI_f id], hG, (by repeat (first | exact mp_fr.rf | refine mp_fr.wm ?_ | refine mp_fr.j ?_ | refine mp_fr.m ?_ (by decide) | refine mp_fr.i ?_ (by decide))), (by repeat (first | exact sn_fr.rf | refine sn_fr.up ?_ (by decide) | refine sn_fr.u18 ?_)), fun _ => by rw [e0, zIf_f (p := (w_c sg s e = 5 ∧ w_op sg s e 2 ≠ 0 ∧ 0 < w_v sg s e z ∧ w_num sg s e 3 ≠ -1000000 ∧ 0 ≤ w_num sg s e 4 ∧ w_num sg s e 4 ≤ 1000)) (fun q => h2 (mn_t.mpr ⟨q.2.2.2.2.1, q.2.2.2.2.2⟩))], fun q => q.elim⟩
      · have h1 := cI_0 h1
        refine ev_iconst (v := 0) d_Mo_step_249 (by decide) ?_
        exact ev_zret d_Mo_step_250 rfl rfl ⟨False, _, _, _, _, by rw [cI_f id], hG, (by repeat (first | exact mp_fr.rf | refine mp_fr.wm ?_ | refine mp_fr.j ?_ | refine mp_fr.m ?_ (by decide) | refine mp_fr.i ?_ (by decide))), (by repeat (first | exact sn_fr.rf | refine sn_fr.up ?_ (by decide) | refine sn_fr.u18 ?_)), fun _ => by rw [e0, zIf_f (p := (w_c sg s e = 5 ∧ w_op sg s e 2 ≠ 0 ∧ 0 < w_v sg s e z ∧ w_num sg s e 3 ≠ -1000000 ∧ 0 ≤ w_num sg s e 4 ∧ w_num sg s e 4 ≤ 1000)) (fun q => h1 (mn_w.mpr q.2.2.2.1))], fun q => q.elim⟩
set_option maxHeartbeats 600000 in
theorem mo_s4 (hk : mk_ok sg M N) (hz : pz_b z) (h : mp_ok sg N c z I M W) (h6 : I 6 = nI e) (hse : s ≤ e) (hen : e ≤ N) (hn : N ≤ 4000) (hsn : zSn z < 1200) (h25 : M 25 (zSn z) = nI n) (h26 : M 26 (zSn z) = 0) (hc : 2 * c ≤ s) (h5 : I 5 = nI (w_w sg s e 0).2) (hkd : w_kd sg s e = 4) (hG : mo_at G0 a A I J (va_up M 24 (upd (M 24) (zSn z) 2)) W G) : ev_W l X m_Mo_step 4 0 0 (st_Q G0 a A sg s e n c z I J M W) 0 0 222 [(0, .ref a), (1, .int 0)] [] G := by
  obtain ⟨p1, p2, p3, p4, p5, p6, p7, p8, p9, p10, p11, p12⟩ := id h
  have z1 := hz.1
  have zk : ∀ i, i < zVn z → 0 < zVk z i := fun i hi => (hz.2.1 i hi).1
  have e0 := pf_4 (n := n) (z := z) hkd
  have hke := mk_le hk hen
  have b0 := (w_w_b (sg := sg) hse 0).2.2.1
  have b1 := (w_w_b (sg := sg) hse 1).2.2.1
  have b2 := (w_w_b (sg := sg) hse 2).2.2.1
  have b3 := (w_w_b (sg := sg) hse 3).2.2.1
  have b4 := (w_w_b (sg := sg) hse 4).2.2.1
  have c1 := wc_lt (sg := sg) hse (j := 1) (by omega)
  have c2 := wc_lt (sg := sg) hse (j := 2) (by omega)
  have c3 := wc_lt (sg := sg) hse (j := 3) (by omega)
  have c4 := wc_lt (sg := sg) hse (j := 4) (by omega)
  have c5 := wc_lt (sg := sg) hse (j := 5) (by omega)
  refine ev_aload_n d_Mo_step_222 rfl rfl ?_
  refine ev_callV0 d_Mo_step_223 ck_Mo_named ml_Mo_196 im_Mo_named se_Mo_named rfl hG.1 (c_Mo_named (b := (w_w sg s e 1).1) (f := (w_w sg s e 1).2) (vn := zVn z) (vk := zVk z) (sn := zSn z) hG (by (repeat (first | apply mk_up (h := by decide) | assumption))) h5 (by (repeat (first | apply va_up_t (h := by decide) | apply mo_w_t (h5 := by decide) (h7 := by decide) (h8 := by decide) | exact va_up_s | exact mo_w_5 | exact mo_w_7 | exact mo_w_8 | assumption)); all_goals rfl) b0 hen hn rfl rfl (by (repeat (first | apply va_up_t (h := by decide) | apply mo_w_t (h5 := by decide) (h7 := by decide) (h8 := by decide) | exact va_up_s | exact mo_w_5 | exact mo_w_7 | exact mo_w_8 | assumption)); all_goals rfl) z1 p6 (by (repeat (first | apply va_up_t (h := by decide) | apply mo_w_t (h5 := by decide) (h7 := by decide) (h8 := by decide) | exact va_up_s | exact mo_w_5 | exact mo_w_7 | exact mo_w_8 | assumption)); all_goals rfl) hsn) (by omega) (Nat.le_of_ble_eq_true rfl) (by omega) (by omega) ?_
  rintro _ G ⟨rfl, y, hG, hy⟩
  refine ev_if_eq 249 d_Mo_step_226 (by decide) (fun h0 => ?_) (fun h0 => ?_)
  · have h0 := cI_0 h0
    refine ev_iconst (v := 0) d_Mo_step_249 (by decide) ?_
    exact ev_zret d_Mo_step_250 rfl rfl ⟨False, _, _, _, _, by rw [cI_f id], hG, (by repeat (first | exact mp_fr.rf | refine mp_fr.wm ?_ | refine mp_fr.j ?_ | refine mp_fr.m ?_ (by decide) | refine mp_fr.i ?_ (by decide))), (by repeat (first | exact sn_fr.rf | refine sn_fr.up ?_ (by decide) | refine sn_fr.u18 ?_)), fun _ => by rw [e0, zIf_f (p := (w_c sg s e = 4 ∧ w_op sg s e 2 ≠ 0 ∧ 0 < w_v sg s e z ∧ w_num sg s e 3 ≠ -1000000)) (fun q => h0 q.2.2.1)], fun q => q.elim⟩
  · have h0 := cI_1 h0
    have w1 := c1.mpr (nm_wx h0 zk)
    refine ev_aload_n d_Mo_step_229 rfl rfl ?_
    refine ev_callV0 d_Mo_step_230 ck_Mo_operator ml_Mo_206 im_Mo_operator se_Mo_operator rfl hG.1 (c_Mo_operator (e := e) (p := (w_w sg s e 1).2) (b := (w_w sg s e 2).1) (f := (w_w sg s e 2).2) (sn := zSn z) hG (by (repeat (first | apply mk_up (h := by decide) | assumption))) (by (repeat (first | apply va_up_t (h := by decide) | apply mo_w_t (h5 := by decide) (h7 := by decide) (h8 := by decide) | exact va_up_s | exact mo_w_5 | exact mo_w_7 | exact mo_w_8 | assumption)); all_goals rfl) (by (repeat (first | apply va_up_t (h := by decide) | apply mo_w_t (h5 := by decide) (h7 := by decide) (h8 := by decide) | exact va_up_s | exact mo_w_5 | exact mo_w_7 | exact mo_w_8 | assumption)); all_goals rfl) b1 (by omega) rfl rfl (by (repeat (first | apply va_up_t (h := by decide) | apply mo_w_t (h5 := by decide) (h7 := by decide) (h8 := by decide) | exact va_up_s | exact mo_w_5 | exact mo_w_7 | exact mo_w_8 | assumption)); all_goals rfl) hsn) (by omega) (Nat.le_of_ble_eq_true rfl) (by omega) (by omega) ?_
    rintro _ G ⟨rfl, o, hG, ho⟩
    refine ev_if_eq 249 d_Mo_step_233 (by decide) (fun ho0 => ?_) (fun ho0 => ?_)
    · have ho0 := cI_0 ho0
      refine ev_iconst (v := 0) d_Mo_step_249 (by decide) ?_
      exact ev_zret d_Mo_step_250 rfl rfl ⟨False, _, _, _, _, by rw [cI_f id], hG, (by repeat (first | exact mp_fr.rf | refine mp_fr.wm ?_ | refine mp_fr.j ?_ | refine mp_fr.m ?_ (by decide) | refine mp_fr.i ?_ (by decide))), (by repeat (first | exact sn_fr.rf | refine sn_fr.up ?_ (by decide) | refine sn_fr.u18 ?_)), fun _ => by rw [e0, zIf_f (p := (w_c sg s e = 4 ∧ w_op sg s e 2 ≠ 0 ∧ 0 < w_v sg s e z ∧ w_num sg s e 3 ≠ -1000000)) (fun q => ho0 q.2.1)], fun q => q.elim⟩
    · have ho0 := cI_1 ho0
      have ho := ho ho0
      have w2 := c2.mpr (op_wx ho0)
      refine ev_aload_n d_Mo_step_236 rfl rfl ?_
      refine ev_ldc2 d_Mo_step_237 hw_1191 ?_
      refine ev_ldc2 d_Mo_step_240 hw_1192 ?_
      refine ev_callV2 d_Mo_step_243 ck_Mo_number ml_Mo_203 im_Mo_number se_Mo_number rfl hG.1 (c_Mo_number (e := e) (p := (w_w sg s e 2).2) (b := (w_w sg s e 3).1) (f := (w_w sg s e 3).2) hG (by (repeat (first | apply mk_up (h := by decide) | assumption))) (by (repeat (first | apply va_up_t (h := by decide) | apply mo_w_t (h5 := by decide) (h7 := by decide) (h8 := by decide) | exact va_up_s | exact mo_w_5 | exact mo_w_7 | exact mo_w_8 | assumption)); all_goals rfl) (by (repeat (first | apply va_up_t (h := by decide) | apply mo_w_t (h5 := by decide) (h7 := by decide) (h8 := by decide) | exact va_up_s | exact mo_w_5 | exact mo_w_7 | exact mo_w_8 | assumption)); all_goals rfl) b2 (by omega) rfl rfl) (by omega) (Nat.le_of_ble_eq_true rfl) (by omega) (by omega) ?_
      rintro _ G ⟨rfl, v, hG, hv⟩
      refine ev_if_ne 251 d_Mo_step_246 (by decide) (fun h1 => ?_) (fun h1 => ?_)
      · have h1 := cI_1 h1
        have hv := hv h1
        have w3 := c3.mpr (nu_wx h1.1)
        refine ev_aload_n d_Mo_step_251 rfl rfl ?_
        refine em_getA (i := 27) hG d_Mo_step_252 fo_Mo_56 rfl ?_
        refine ev_aload_n d_Mo_step_255 rfl rfl ?_
        refine em_getI (i := 23) hG d_Mo_step_256 fo_Mo_174 rfl (by (repeat (first | apply va_up_t (h := by decide) | apply mo_w_t (h5 := by decide) (h7 := by decide) (h8 := by decide) | exact va_up_s | exact mo_w_5 | exact mo_w_7 | exact mo_w_8 | assumption)); all_goals rfl) ?_
        refine ev_aload_n d_Mo_step_259 rfl rfl ?_
        refine em_getJ (i := 9) hG d_Mo_step_260 fo_Mo_150 rfl (by (repeat (first | apply va_up_t (h := by decide) | apply mo_w_t (h5 := by decide) (h7 := by decide) (h8 := by decide) | exact va_up_s | exact mo_w_5 | exact mo_w_7 | exact mo_w_8 | assumption)); all_goals rfl) ?_
        refine em_last (i := 27) (N := 1200) hG d_Mo_step_263 rfl rfl (by decide) (by omega) (fun G hG => ?_)
        refine ev_iload_n d_Mo_step_264 rfl rfl ?_
        refine ev_if_eq 281 d_Mo_step_265 (by decide) (fun _ => ?_) (fun y => absurd rfl y)
        refine ev_aload_n d_Mo_step_281 rfl rfl ?_
        refine em_getA (i := 28) hG d_Mo_step_282 fo_Mo_59 rfl ?_
        refine ev_aload_n d_Mo_step_285 rfl rfl ?_
        refine em_getI (i := 23) hG d_Mo_step_286 fo_Mo_174 rfl (by (repeat (first | apply va_up_t (h := by decide) | apply mo_w_t (h5 := by decide) (h7 := by decide) (h8 := by decide) | exact va_up_s | exact mo_w_5 | exact mo_w_7 | exact mo_w_8 | assumption)); all_goals rfl) ?_
        refine ev_aload_n d_Mo_step_289 rfl rfl ?_
        refine em_getJ (i := 9) hG d_Mo_step_290 fo_Mo_150 rfl (by (repeat (first | apply va_up_t (h := by decide) | apply mo_w_t (h5 := by decide) (h7 := by decide) (h8 := by decide) | exact va_up_s | exact mo_w_5 | exact mo_w_7 | exact mo_w_8 | assumption)); all_goals rfl) ?_
        refine em_last (i := 28) (N := 1200) hG d_Mo_step_293 rfl rfl (by decide) (by omega) (fun G hG => ?_)
        refine ev_aload_n d_Mo_step_294 rfl rfl ?_
        refine ev_callV0 d_Mo_step_295 ck_Mo_through ml_Mo_184 im_Mo_through se_Mo_through rfl hG.1 (c_Mo_through (e := e) (p := (w_w sg s e 3).2) hG (by (repeat (first | apply mk_up (h := by decide) | assumption))) (by (repeat (first | apply va_up_t (h := by decide) | apply mo_w_t (h5 := by decide) (h7 := by decide) (h8 := by decide) | exact va_up_s | exact mo_w_5 | exact mo_w_7 | exact mo_w_8 | assumption)); all_goals rfl) (by (repeat (first | apply va_up_t (h := by decide) | apply mo_w_t (h5 := by decide) (h7 := by decide) (h8 := by decide) | exact va_up_s | exact mo_w_5 | exact mo_w_7 | exact mo_w_8 | assumption)); all_goals rfl) b3 (by omega)) (by omega) (Nat.le_of_ble_eq_true rfl) (by omega) (by omega) ?_
        rintro _ G ⟨rfl, hG⟩
        refine ev_zret d_Mo_step_298 rfl cI_n ⟨_, _, _, _, _, rfl, hG, (by repeat (first | exact mp_fr.rf | refine mp_fr.wm ?_ | refine mp_fr.j ?_ | refine mp_fr.m ?_ (by decide) | refine mp_fr.i ?_ (by decide))), (by repeat (first | exact sn_fr.rf | refine sn_fr.up ?_ (by decide) | refine sn_fr.u18 ?_)), fun q => ?_, fun q => ⟨(sf_D 4 (nI n) (nI (w_v sg s e z)) (w_op sg s e 2) (w_num sg s e 3) 0, 0, (fun _ => 0), z), c, (by (repeat (first | apply va_up_t (h := by decide) | apply mo_w_t (h5 := by decide) (h7 := by decide) (h8 := by decide) | exact va_up_s | exact mo_w_5 | exact mo_w_7 | exact mo_w_8 | assumption)); all_goals rfl), (by (repeat (first | apply va_up_t (h := by decide) | apply mo_w_t (h5 := by decide) (h7 := by decide) (h8 := by decide) | exact va_up_s | exact mo_w_5 | exact mo_w_7 | exact mo_w_8 | assumption)); all_goals rfl), (by (repeat (first | apply va_up_t (h := by decide) | apply mo_w_t (h5 := by decide) (h7 := by decide) (h8 := by decide) | exact va_up_s | exact mo_w_5 | exact mo_w_7 | exact mo_w_8 | assumption)); all_goals rfl), (by (repeat (first | apply va_up_t (h := by decide) | apply mo_w_t (h5 := by decide) (h7 := by decide) (h8 := by decide) | exact va_up_s | exact mo_w_5 | exact mo_w_7 | exact mo_w_8 | assumption)); all_goals rfl), (by (repeat (first | apply va_up_t (h := by decide) | apply mo_w_t (h5 := by decide) (h7 := by decide) (h8 := by decide) | exact va_up_s | exact mo_w_5 | exact mo_w_7 | exact mo_w_8 | assumption)); all_goals rfl), Nat.le_refl _, (by omega), ms_4 (by (repeat (first | apply va_up_mt (h := by decide) | apply va_up_ms | apply pk_ut (h := by omega) | apply pk_uLt (h := by omega) | exact pk_us | exact pk_uLs | assumption)); all_goals rfl) (h25 : _) (Eq.trans (b := y) (by (repeat (first | apply va_up_mt (h := by decide) | apply va_up_ms | apply pk_ut (h := by omega) | apply pk_uLt (h := by omega) | exact pk_us | exact pk_uLs | assumption)); all_goals rfl) (hy h0)) (Eq.trans (b := v) (by (repeat (first | apply va_up_mt (h := by decide) | apply va_up_ms | apply pk_ut (h := by omega) | apply pk_uLt (h := by omega) | exact pk_us | exact pk_uLs | assumption)); all_goals rfl) hv) (Eq.trans (b := o) (by (repeat (first | apply va_up_mt (h := by decide) | apply va_up_ms | apply pk_ut (h := by omega) | apply pk_uLt (h := by omega) | exact pk_us | exact pk_uLs | assumption)); all_goals rfl) ho), sw_28 (sw_27 sw_0), rfl, rfl, fun _ => rfl, fun (y : (4 : Int32) = 8) => absurd y (by decide), ?_, 4, by decide, by decide, rfl⟩⟩
        · rw [e0, zIf_f (p := (w_c sg s e = 4 ∧ w_op sg s e 2 ≠ 0 ∧ 0 < w_v sg s e z ∧ w_num sg s e 3 ≠ -1000000)) (fun y => q (fun w => by have := c4.mpr w; omega))]
        · have : ¬ 4 < w_c sg s e := fun y => q (c4.mp y)
          rw [e0, zIf_t (p := (w_c sg s e = 4 ∧ w_op sg s e 2 ≠ 0 ∧ 0 < w_v sg s e z ∧ w_num sg s e 3 ≠ -1000000)) ⟨by omega, ho0, h0, h1.1⟩, zIf_f (bkn_4 (z := z))]
      · have h1 := cI_0 h1
        refine ev_iconst (v := 0) d_Mo_step_249 (by decide) ?_
        exact ev_zret d_Mo_step_250 rfl rfl ⟨False, _, _, _, _, by rw [cI_f id], hG, (by repeat (first | exact mp_fr.rf | refine mp_fr.wm ?_ | refine mp_fr.j ?_ | refine mp_fr.m ?_ (by decide) | refine mp_fr.i ?_ (by decide))), (by repeat (first | exact sn_fr.rf | refine sn_fr.up ?_ (by decide) | refine sn_fr.u18 ?_)), fun _ => by rw [e0, zIf_f (p := (w_c sg s e = 4 ∧ w_op sg s e 2 ≠ 0 ∧ 0 < w_v sg s e z ∧ w_num sg s e 3 ≠ -1000000)) (fun q => h1 (mn_w.mpr q.2.2.2))], fun q => q.elim⟩
set_option maxHeartbeats 600000 in
theorem mo_s5 (hk : mk_ok sg M N) (hz : pz_b z) (h : mp_ok sg N c z I M W) (h6 : I 6 = nI e) (hse : s ≤ e) (hen : e ≤ N) (hn : N ≤ 4000) (hsn : zSn z < 1200) (h25 : M 25 (zSn z) = nI n) (h26 : M 26 (zSn z) = 0) (hc : 2 * c ≤ s) (h5 : I 5 = nI (w_w sg s e 0).2) (hkd : w_kd sg s e = 5) (hG : mo_at G0 a A I J (va_up M 24 (upd (M 24) (zSn z) 4)) W G) : ev_W l X m_Mo_step 4 0 0 (st_Q G0 a A sg s e n c z I J M W) 0 0 327 [(0, .ref a), (1, .int 0)] [] G := by
  obtain ⟨p1, p2, p3, p4, p5, p6, p7, p8, p9, p10, p11, p12⟩ := id h
  have z1 := hz.1
  have zk : ∀ i, i < zVn z → 0 < zVk z i := fun i hi => (hz.2.1 i hi).1
  have e0 := pf_5 (n := n) (z := z) hkd
  have hke := mk_le hk hen
  have b0 := (w_w_b (sg := sg) hse 0).2.2.1
  have b1 := (w_w_b (sg := sg) hse 1).2.2.1
  have b2 := (w_w_b (sg := sg) hse 2).2.2.1
  have b3 := (w_w_b (sg := sg) hse 3).2.2.1
  have b4 := (w_w_b (sg := sg) hse 4).2.2.1
  have c1 := wc_lt (sg := sg) hse (j := 1) (by omega)
  have c2 := wc_lt (sg := sg) hse (j := 2) (by omega)
  have c3 := wc_lt (sg := sg) hse (j := 3) (by omega)
  have c4 := wc_lt (sg := sg) hse (j := 4) (by omega)
  have c5 := wc_lt (sg := sg) hse (j := 5) (by omega)
  refine ev_aload_n d_Mo_step_327 rfl rfl ?_
  refine ev_lconst (v := 1) d_Mo_step_328 (by decide) ?_
  refine ev_ldc2 d_Mo_step_329 hw_1204 ?_
  refine ev_callV2 d_Mo_step_332 ck_Mo_number ml_Mo_203 im_Mo_number se_Mo_number rfl hG.1 (c_Mo_number (e := e) (p := (w_w sg s e 0).2) (b := (w_w sg s e 1).1) (f := (w_w sg s e 1).2) hG (by (repeat (first | apply mk_up (h := by decide) | assumption))) (by (repeat (first | apply va_up_t (h := by decide) | apply mo_w_t (h5 := by decide) (h7 := by decide) (h8 := by decide) | exact va_up_s | exact mo_w_5 | exact mo_w_7 | exact mo_w_8 | assumption)); all_goals rfl) (by (repeat (first | apply va_up_t (h := by decide) | apply mo_w_t (h5 := by decide) (h7 := by decide) (h8 := by decide) | exact va_up_s | exact mo_w_5 | exact mo_w_7 | exact mo_w_8 | assumption)); all_goals rfl) b0 (by omega) rfl rfl) (by omega) (Nat.le_of_ble_eq_true rfl) (by omega) (by omega) ?_
  rintro _ G ⟨rfl, v, hG, hv⟩
  refine ev_if_ne 340 d_Mo_step_335 (by decide) (fun h1 => ?_) (fun h1 => ?_)
  · have h1 := cI_1 h1
    have hv := hv h1
    have w1 := c1.mpr (nu_wx h1.1)
    have g1 : 1 ≤ w_num sg s e 1 := (mn_f.mp h1).1
    have g2 : w_num sg s e 1 ≤ 8 := (mn_f.mp h1).2
    refine ev_aload_n d_Mo_step_340 rfl rfl ?_
    refine em_getA (i := 27) hG d_Mo_step_341 fo_Mo_56 rfl ?_
    refine ev_aload_n d_Mo_step_344 rfl rfl ?_
    refine em_getI (i := 23) hG d_Mo_step_345 fo_Mo_174 rfl (by (repeat (first | apply va_up_t (h := by decide) | apply mo_w_t (h5 := by decide) (h7 := by decide) (h8 := by decide) | exact va_up_s | exact mo_w_5 | exact mo_w_7 | exact mo_w_8 | assumption)); all_goals rfl) ?_
    refine ev_aload_n d_Mo_step_348 rfl rfl ?_
    refine em_getJ (i := 9) hG d_Mo_step_349 fo_Mo_150 rfl (by (repeat (first | apply va_up_t (h := by decide) | apply mo_w_t (h5 := by decide) (h7 := by decide) (h8 := by decide) | exact va_up_s | exact mo_w_5 | exact mo_w_7 | exact mo_w_8 | assumption)); all_goals rfl) ?_
    refine em_last (i := 27) (N := 1200) hG d_Mo_step_352 rfl rfl (by decide) (by omega) (fun G hG => ?_)
    refine ev_aload_n d_Mo_step_353 rfl rfl ?_
    refine ev_callV0 d_Mo_step_354 ck_Mo_next ml_Mo_146 im_Mo_next se_Mo_next rfl hG.1 (c_Mo_next (e := e) (p := (w_w sg s e 1).2) hG (by (repeat (first | apply mk_up (h := by decide) | assumption))) (by (repeat (first | apply va_up_t (h := by decide) | apply mo_w_t (h5 := by decide) (h7 := by decide) (h8 := by decide) | exact va_up_s | exact mo_w_5 | exact mo_w_7 | exact mo_w_8 | assumption)); all_goals rfl) (by (repeat (first | apply va_up_t (h := by decide) | apply mo_w_t (h5 := by decide) (h7 := by decide) (h8 := by decide) | exact va_up_s | exact mo_w_5 | exact mo_w_7 | exact mo_w_8 | assumption)); all_goals rfl) b1 (by omega)) (by omega) (Nat.le_of_ble_eq_true rfl) (by omega) (by omega) ?_
    rintro _ G ⟨rfl, hG⟩
    have bb2 := (w_w_b (sg := sg) hse 2).2.1
    refine ev_if_ne 362 d_Mo_step_357 (by decide) (fun h2 => ?_) (fun h2 => ?_)
    · have w2 := c2.mpr (cI_1 h2)
      have tail : ∀ (x : Int64) (yy : Int32) (G : pm_G), x = yy.toInt64 → (0 ≤ yy ↔ (w_is sg s e 2 15 ∨ w_is sg s e 2 16)) → (0 ≤ yy → yy = zIf (w_is sg s e 2 15) 1 0) → mo_at G0 a A (mo_w (mo_w I (w_w sg s e 1).1 (w_w sg s e 1).2) (w_w sg s e 2).1 (w_w sg s e 2).2) (va_up J 9 v) (va_up M 24 (upd (M 24) (zSn z) 4)) (va_up W 27 (vp_updL (W 27) (zSn z) v)) G → ev_W l X m_Mo_step 4 0 0 (st_Q G0 a A sg s e n c z I J M W) 0 0 412 [(0, .ref a), (1, .int 0)] [.long x, .int (nI (zSn z)), .ref (A 28)] G := by
        intro x yy G hx hyy hyz hG
        refine em_last (i := 28) (N := 1200) hG d_Mo_step_412 rfl rfl (by decide) (by omega) (fun G hG => ?_)
        refine ev_aload_n d_Mo_step_413 rfl rfl ?_
        refine em_getA (i := 28) hG d_Mo_step_414 fo_Mo_59 rfl ?_
        refine ev_aload_n d_Mo_step_417 rfl rfl ?_
        refine em_getI (i := 23) hG d_Mo_step_418 fo_Mo_174 rfl (by (repeat (first | apply va_up_t (h := by decide) | apply mo_w_t (h5 := by decide) (h7 := by decide) (h8 := by decide) | exact va_up_s | exact mo_w_5 | exact mo_w_7 | exact mo_w_8 | assumption)); all_goals rfl) ?_
        refine em_lald (i := 28) (N := 1200) hG d_Mo_step_421 rfl rfl (by decide) (by omega) (by (repeat (first | apply va_up_mt (h := by decide) | apply va_up_ms | apply pk_ut (h := by omega) | apply pk_uLt (h := by omega) | exact pk_us | exact pk_uLs | assumption)); all_goals rfl) ?_
        refine ev_lconst (v := 0) d_Mo_step_422 (by decide) ?_
        refine ev_lcmp d_Mo_step_423 ?_
        refine ev_if_lt 438 d_Mo_step_424 (by decide) (fun h3 => ?_) (fun h3 => ?_)
        · have h3 := (lg_cmp_lt _ _).mp h3
          have h3 : ¬ 0 ≤ yy := fun y => absurd (i64_le.mpr y) (Int64.not_le.mpr (hx ▸ h3))
          refine ev_iconst (v := 0) d_Mo_step_438 (by decide) ?_
          exact ev_zret d_Mo_step_439 rfl rfl ⟨False, _, _, _, _, by rw [cI_f id], hG, (by repeat (first | exact mp_fr.rf | refine mp_fr.wm ?_ | refine mp_fr.j ?_ | refine mp_fr.m ?_ (by decide) | refine mp_fr.i ?_ (by decide))), (by repeat (first | exact sn_fr.rf | refine sn_fr.up ?_ (by decide) | refine sn_fr.u18 ?_)), fun _ => by rw [e0, zIf_f (p := (w_c sg s e = 3 ∧ 1 ≤ w_num sg s e 1 ∧ w_num sg s e 1 ≤ 8 ∧ (w_is sg s e 2 15 ∨ w_is sg s e 2 16))) (fun q => h3 (hyy.mpr q.2.2.2))], fun q => q.elim⟩
        · have h3 : ¬ x < 0 := fun y => h3 ((lg_cmp_lt _ _).mpr y)
          have h3 : 0 ≤ yy := i64_le.mp (by rw [← hx]; exact Int64.not_lt.mp h3)
          have h4 := hyz h3
          refine ev_aload_n d_Mo_step_427 rfl rfl ?_
          refine ev_callV0 d_Mo_step_428 ck_Mo_through ml_Mo_184 im_Mo_through se_Mo_through rfl hG.1 (c_Mo_through (e := e) (p := (w_w sg s e 2).2) hG (by (repeat (first | apply mk_up (h := by decide) | assumption))) (by (repeat (first | apply va_up_t (h := by decide) | apply mo_w_t (h5 := by decide) (h7 := by decide) (h8 := by decide) | exact va_up_s | exact mo_w_5 | exact mo_w_7 | exact mo_w_8 | assumption)); all_goals rfl) (by (repeat (first | apply va_up_t (h := by decide) | apply mo_w_t (h5 := by decide) (h7 := by decide) (h8 := by decide) | exact va_up_s | exact mo_w_5 | exact mo_w_7 | exact mo_w_8 | assumption)); all_goals rfl) b2 (by omega)) (by omega) (Nat.le_of_ble_eq_true rfl) (by omega) (by omega) ?_
          rintro _ G ⟨rfl, hG⟩
          refine ev_if_eq 438 d_Mo_step_431 (by decide) (fun h5 => ?_) (fun h5 => ?_)
          · have h5 := cI_0 h5
            refine ev_iconst (v := 0) d_Mo_step_438 (by decide) ?_
            exact ev_zret d_Mo_step_439 rfl rfl ⟨False, _, _, _, _, by rw [cI_f id], hG, (by repeat (first | exact mp_fr.rf | refine mp_fr.wm ?_ | refine mp_fr.j ?_ | refine mp_fr.m ?_ (by decide) | refine mp_fr.i ?_ (by decide))), (by repeat (first | exact sn_fr.rf | refine sn_fr.up ?_ (by decide) | refine sn_fr.u18 ?_)), fun _ => by rw [e0, zIf_f (p := (w_c sg s e = 3 ∧ 1 ≤ w_num sg s e 1 ∧ w_num sg s e 1 ≤ 8 ∧ (w_is sg s e 2 15 ∨ w_is sg s e 2 16))) (fun q => h5 (fun w => by have := c3.mpr w; omega))], fun q => q.elim⟩
          · have h5 := cI_1 h5
            have : ¬ 3 < w_c sg s e := fun y => h5 (c3.mp y)
            refine ev_iconst (v := 1) d_Mo_step_434 (by decide) ?_
            refine ev_goto 439 d_Mo_step_435 (by decide) ?_
            refine ev_zret d_Mo_step_439 rfl rfl ⟨True, _, _, _, _, by rw [cI_t trivial], hG, (by repeat (first | exact mp_fr.rf | refine mp_fr.wm ?_ | refine mp_fr.j ?_ | refine mp_fr.m ?_ (by decide) | refine mp_fr.i ?_ (by decide))), (by repeat (first | exact sn_fr.rf | refine sn_fr.up ?_ (by decide) | refine sn_fr.u18 ?_)), fun q => absurd trivial q, fun _ => ⟨(sf_D 5 (nI n) 0 0 (w_num sg s e 1) (zIf (w_is sg s e 2 15) 1 0), 0, (fun _ => 0), z), c, (by (repeat (first | apply va_up_t (h := by decide) | apply mo_w_t (h5 := by decide) (h7 := by decide) (h8 := by decide) | exact va_up_s | exact mo_w_5 | exact mo_w_7 | exact mo_w_8 | assumption)); all_goals rfl), (by (repeat (first | apply va_up_t (h := by decide) | apply mo_w_t (h5 := by decide) (h7 := by decide) (h8 := by decide) | exact va_up_s | exact mo_w_5 | exact mo_w_7 | exact mo_w_8 | assumption)); all_goals rfl), (by (repeat (first | apply va_up_t (h := by decide) | apply mo_w_t (h5 := by decide) (h7 := by decide) (h8 := by decide) | exact va_up_s | exact mo_w_5 | exact mo_w_7 | exact mo_w_8 | assumption)); all_goals rfl), (by (repeat (first | apply va_up_t (h := by decide) | apply mo_w_t (h5 := by decide) (h7 := by decide) (h8 := by decide) | exact va_up_s | exact mo_w_5 | exact mo_w_7 | exact mo_w_8 | assumption)); all_goals rfl), (by (repeat (first | apply va_up_t (h := by decide) | apply mo_w_t (h5 := by decide) (h7 := by decide) (h8 := by decide) | exact va_up_s | exact mo_w_5 | exact mo_w_7 | exact mo_w_8 | assumption)); all_goals rfl), Nat.le_refl _, (by omega), ms_5 (by (repeat (first | apply va_up_mt (h := by decide) | apply va_up_ms | apply pk_ut (h := by omega) | apply pk_uLt (h := by omega) | exact pk_us | exact pk_uLs | assumption)); all_goals rfl) (h25 : _) (h26 : _) (Eq.trans (b := v) (by (repeat (first | apply va_up_mt (h := by decide) | apply va_up_ms | apply pk_ut (h := by omega) | apply pk_uLt (h := by omega) | exact pk_us | exact pk_uLs | assumption)); all_goals rfl) hv) (Eq.trans (b := x) (by (repeat (first | apply va_up_mt (h := by decide) | apply va_up_ms | apply pk_ut (h := by omega) | apply pk_uLt (h := by omega) | exact pk_us | exact pk_uLs | assumption)); all_goals rfl) (hx.trans (congrArg Int32.toInt64 h4))), sw_28 (sw_27 sw_0), rfl, rfl, fun _ => rfl, fun (y : (5 : Int32) = 8) => absurd y (by decide), ?_, 5, by decide, by decide, rfl⟩⟩
            rw [e0, zIf_t (p := (w_c sg s e = 3 ∧ 1 ≤ w_num sg s e 1 ∧ w_num sg s e 1 ≤ 8 ∧ (w_is sg s e 2 15 ∨ w_is sg s e 2 16))) ⟨by omega, g1, g2, hyy.mp h3⟩, zIf_f (bkn_5 (z := z))]
      refine ev_aload_n d_Mo_step_362 rfl rfl ?_
      refine em_getA (i := 28) hG d_Mo_step_363 fo_Mo_59 rfl ?_
      refine ev_aload_n d_Mo_step_366 rfl rfl ?_
      refine em_getI (i := 23) hG d_Mo_step_367 fo_Mo_174 rfl (by (repeat (first | apply va_up_t (h := by decide) | apply mo_w_t (h5 := by decide) (h7 := by decide) (h8 := by decide) | exact va_up_s | exact mo_w_5 | exact mo_w_7 | exact mo_w_8 | assumption)); all_goals rfl) ?_
      refine ev_aload_n d_Mo_step_370 rfl rfl ?_
      refine ev_bipush (v := 111) d_Mo_step_371 (by decide) ?_
      refine ev_bipush (v := 110) d_Mo_step_373 (by decide) ?_
      refine ev_iconst (v := 0) d_Mo_step_375 (by decide) ?_
      refine ev_iconst (v := 0) d_Mo_step_376 (by decide) ?_
      refine ev_iconst (v := 0) d_Mo_step_377 (by decide) ?_
      refine ev_iconst (v := 0) d_Mo_step_378 (by decide) ?_
      refine ev_callV6 d_Mo_step_379 ck_Mo_is ml_Mo_177 im_Mo_is se_Mo_is rfl hG.1 (c_Mo_is (b := (w_w sg s e 2).1) (f := (w_w sg s e 2).2) 15 hG (by (repeat (first | apply mk_up (h := by decide) | assumption))) (by (repeat (first | apply va_up_t (h := by decide) | apply mo_w_t (h5 := by decide) (h7 := by decide) (h8 := by decide) | exact va_up_s | exact mo_w_5 | exact mo_w_7 | exact mo_w_8 | assumption)); all_goals rfl) (by (repeat (first | apply va_up_t (h := by decide) | apply mo_w_t (h5 := by decide) (h7 := by decide) (h8 := by decide) | exact va_up_s | exact mo_w_5 | exact mo_w_7 | exact mo_w_8 | assumption)); all_goals rfl) bb2 (by omega) hn (by decide) (by decide)) (by omega) (Nat.le_of_ble_eq_true rfl) (by omega) (by omega) ?_
      rintro _ _ ⟨rfl, rfl⟩
      refine ev_if_eq 389 d_Mo_step_382 (by decide) (fun h3 => ?_) (fun h3 => ?_)
      · have h3 := cI_0 h3
        refine ev_aload_n d_Mo_step_389 rfl rfl ?_
        refine ev_bipush (v := 111) d_Mo_step_390 (by decide) ?_
        refine ev_bipush (v := 102) d_Mo_step_392 (by decide) ?_
        refine ev_bipush (v := 102) d_Mo_step_394 (by decide) ?_
        refine ev_iconst (v := 0) d_Mo_step_396 (by decide) ?_
        refine ev_iconst (v := 0) d_Mo_step_397 (by decide) ?_
        refine ev_iconst (v := 0) d_Mo_step_398 (by decide) ?_
        refine ev_callV6 d_Mo_step_399 ck_Mo_is ml_Mo_177 im_Mo_is se_Mo_is rfl hG.1 (c_Mo_is (b := (w_w sg s e 2).1) (f := (w_w sg s e 2).2) 16 hG (by (repeat (first | apply mk_up (h := by decide) | assumption))) (by (repeat (first | apply va_up_t (h := by decide) | apply mo_w_t (h5 := by decide) (h7 := by decide) (h8 := by decide) | exact va_up_s | exact mo_w_5 | exact mo_w_7 | exact mo_w_8 | assumption)); all_goals rfl) (by (repeat (first | apply va_up_t (h := by decide) | apply mo_w_t (h5 := by decide) (h7 := by decide) (h8 := by decide) | exact va_up_s | exact mo_w_5 | exact mo_w_7 | exact mo_w_8 | assumption)); all_goals rfl) bb2 (by omega) hn (by decide) (by decide)) (by omega) (Nat.le_of_ble_eq_true rfl) (by omega) (by omega) ?_
        rintro _ _ ⟨rfl, rfl⟩
        refine ev_if_eq 409 d_Mo_step_402 (by decide) (fun h4 => ?_) (fun h4 => ?_)
        · have h4 := cI_0 h4
          refine ev_ldc2 d_Mo_step_409 hw_1205 ?_
          exact tail _ (-1) G rfl ⟨fun y => absurd y (by decide), fun y => y.elim (fun y => absurd y h3) (fun y => absurd y h4)⟩ (fun y => absurd y (by decide)) hG
        · have h4 := cI_1 h4
          refine ev_lconst (v := 0) d_Mo_step_405 (by decide) ?_
          refine ev_goto 412 d_Mo_step_406 (by decide) ?_
          exact tail _ 0 G rfl ⟨fun _ => Or.inr h4, fun _ => by decide⟩ (fun _ => (zIf_f h3).symm) hG
      · have h3 := cI_1 h3
        refine ev_lconst (v := 1) d_Mo_step_385 (by decide) ?_
        refine ev_goto 412 d_Mo_step_386 (by decide) ?_
        exact tail _ 1 G rfl ⟨fun _ => Or.inl h3, fun _ => by decide⟩ (fun _ => (zIf_t h3).symm) hG
    · have h2 := cI_0 h2
      refine ev_iconst (v := 0) d_Mo_step_360 (by decide) ?_
      exact ev_zret d_Mo_step_361 rfl rfl ⟨False, _, _, _, _, by rw [cI_f id], hG, (by repeat (first | exact mp_fr.rf | refine mp_fr.wm ?_ | refine mp_fr.j ?_ | refine mp_fr.m ?_ (by decide) | refine mp_fr.i ?_ (by decide))), (by repeat (first | exact sn_fr.rf | refine sn_fr.up ?_ (by decide) | refine sn_fr.u18 ?_)), fun _ => by rw [e0, zIf_f (p := (w_c sg s e = 3 ∧ 1 ≤ w_num sg s e 1 ∧ w_num sg s e 1 ≤ 8 ∧ (w_is sg s e 2 15 ∨ w_is sg s e 2 16))) (fun q => h2 (c2.mp (by omega)))], fun q => q.elim⟩
  · have h1 := cI_0 h1
    refine ev_iconst (v := 0) d_Mo_step_338 (by decide) ?_
    exact ev_zret d_Mo_step_339 rfl rfl ⟨False, _, _, _, _, by rw [cI_f id], hG, (by repeat (first | exact mp_fr.rf | refine mp_fr.wm ?_ | refine mp_fr.j ?_ | refine mp_fr.m ?_ (by decide) | refine mp_fr.i ?_ (by decide))), (by repeat (first | exact sn_fr.rf | refine sn_fr.up ?_ (by decide) | refine sn_fr.u18 ?_)), fun _ => by rw [e0, zIf_f (p := (w_c sg s e = 3 ∧ 1 ≤ w_num sg s e 1 ∧ w_num sg s e 1 ≤ 8 ∧ (w_is sg s e 2 15 ∨ w_is sg s e 2 16))) (fun q => h1 (mn_f.mpr ⟨q.2.1, q.2.2.1⟩))], fun q => q.elim⟩
end SS
