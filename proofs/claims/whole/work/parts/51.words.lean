/-! THE WORDS OF A LINE: word k of the signs s .. e; split, has -/
def w_nx (sg : Nat → Nat) : Nat → Nat → Nat
  | 0, p => p
  | m + 1, p => if sg p = 32 then w_nx sg m (p + 1) else p
def w_en (sg : Nat → Nat) : Nat → Nat → Nat
  | 0, p => p
  | m + 1, p => if sg p = 32 then p else w_en sg m (p + 1)
def w_at (sg : Nat → Nat) (e p : Nat) : Nat × Nat := (w_nx sg (e - p) p, w_en sg (e - w_nx sg (e - p) p) (w_nx sg (e - p) p))
def w_w (sg : Nat → Nat) (s e : Nat) : Nat → Nat × Nat
  | 0 => w_at sg e s
  | k + 1 => w_at sg e (w_w sg s e k).2
def w_cg (sg : Nat → Nat) (s e : Nat) : Nat → Nat → Nat
  | 0, k => k
  | m + 1, k => if (w_w sg s e k).1 < e then w_cg sg s e m (k + 1) else k
/-- how many words; 13 stands for more than 12 -/
def w_c (sg : Nat → Nat) (s e : Nat) : Nat := w_cg sg s e 13 0
section WM
variable {sg : Nat → Nat} {s e : Nat}
theorem w_nx_0 {p : Nat} (h : e ≤ p) : w_nx sg (e - p) p = p := by rw [show e - p = 0 by omega]; rfl
theorem w_nx_s {p : Nat} (h : p < e) (h2 : sg p = 32) : w_nx sg (e - p) p = w_nx sg (e - (p + 1)) (p + 1) := by
  rw [show e - p = (e - (p + 1)) + 1 by omega, w_nx, if_pos h2]
theorem w_nx_n {p : Nat} (h : p < e) (h2 : ¬ sg p = 32) : w_nx sg (e - p) p = p := by
  rw [show e - p = (e - (p + 1)) + 1 by omega, w_nx, if_neg h2]
theorem w_en_0 {p : Nat} (h : e ≤ p) : w_en sg (e - p) p = p := by rw [show e - p = 0 by omega]; rfl
theorem w_en_s {p : Nat} (h : p < e) (h2 : sg p = 32) : w_en sg (e - p) p = p := by
  rw [show e - p = (e - (p + 1)) + 1 by omega, w_en, if_pos h2]
theorem w_en_n {p : Nat} (h : p < e) (h2 : ¬ sg p = 32) : w_en sg (e - p) p = w_en sg (e - (p + 1)) (p + 1) := by
  rw [show e - p = (e - (p + 1)) + 1 by omega, w_en, if_neg h2]
theorem w_nx_b : ∀ {m p : Nat}, p + m = e → p ≤ w_nx sg (e - p) p ∧ w_nx sg (e - p) p ≤ e ∧ (w_nx sg (e - p) p < e → ¬ sg (w_nx sg (e - p) p) = 32) := by
  intro m
  induction m with
  | zero => intro p h; rw [w_nx_0 (by omega)]; exact ⟨Nat.le_refl _, by omega, fun z => absurd z (by omega)⟩
  | succ m ih =>
    intro p h
    by_cases q : sg p = 32
    · rw [w_nx_s (by omega) q]
      have := ih (p := p + 1) (by omega)
      exact ⟨by omega, this.2.1, this.2.2⟩
    · rw [w_nx_n (by omega) q]
      exact ⟨Nat.le_refl _, by omega, fun _ => q⟩
theorem w_en_b : ∀ {m p : Nat}, p + m = e → p ≤ w_en sg (e - p) p ∧ w_en sg (e - p) p ≤ e ∧ ∀ i, p ≤ i → i < w_en sg (e - p) p → ¬ sg i = 32 := by
  intro m
  induction m with
  | zero => intro p h; rw [w_en_0 (by omega)]; exact ⟨Nat.le_refl _, by omega, fun i h1 h2 => absurd h2 (by omega)⟩
  | succ m ih =>
    intro p h
    by_cases q : sg p = 32
    · rw [w_en_s (by omega) q]
      exact ⟨Nat.le_refl _, by omega, fun i h1 h2 => absurd h2 (by omega)⟩
    · rw [w_en_n (by omega) q]
      have := ih (p := p + 1) (by omega)
      refine ⟨by omega, this.2.1, fun i h1 h2 => ?_⟩
      rcases Nat.eq_or_lt_of_le h1 with z | z
      · rw [← z]; exact q
      · exact this.2.2 i z h2
theorem w_at_b {p : Nat} (hp : p ≤ e) : p ≤ (w_at sg e p).1 ∧ (w_at sg e p).1 ≤ (w_at sg e p).2 ∧ (w_at sg e p).2 ≤ e ∧ ((w_at sg e p).1 < e → (w_at sg e p).1 < (w_at sg e p).2) := by
  obtain ⟨a1, a2, a3⟩ := w_nx_b (sg := sg) (e := e) (m := e - p) (p := p) (by omega)
  obtain ⟨b1, b2, b3⟩ := w_en_b (sg := sg) (e := e) (m := e - w_nx sg (e - p) p) (p := w_nx sg (e - p) p) (by omega)
  refine ⟨a1, b1, b2, fun (z : w_nx sg (e - p) p < e) => ?_⟩
  show w_nx sg (e - p) p < w_en sg (e - w_nx sg (e - p) p) (w_nx sg (e - p) p)
  rw [w_en_n z (a3 z)]
  have := (w_en_b (sg := sg) (e := e) (m := e - (w_nx sg (e - p) p + 1)) (p := w_nx sg (e - p) p + 1) (by have : w_nx sg (e - p) p < e := z; omega)).1
  omega
theorem w_w_b (hse : s ≤ e) : ∀ k, s ≤ (w_w sg s e k).1 ∧ (w_w sg s e k).1 ≤ (w_w sg s e k).2 ∧ (w_w sg s e k).2 ≤ e ∧ ((w_w sg s e k).1 < e → (w_w sg s e k).1 < (w_w sg s e k).2) := by
  intro k
  induction k with
  | zero => exact w_at_b hse
  | succ k ih =>
    obtain ⟨a1, a2, a3, a4⟩ := ih
    obtain ⟨b1, b2, b3, b4⟩ := w_at_b (sg := sg) a3
    exact ⟨by show s ≤ (w_at sg e (w_w sg s e k).2).1; omega, b2, b3, b4⟩
theorem w_w_end (hse : s ≤ e) {k : Nat} (h : ¬ (w_w sg s e k).1 < e) : (w_w sg s e k).2 = e ∧ (w_w sg s e k).1 = e ∧ ¬ (w_w sg s e (k + 1)).1 < e := by
  obtain ⟨a1, a2, a3, a4⟩ := w_w_b (sg := sg) hse k
  obtain ⟨b1, b2, b3, b4⟩ := w_at_b (sg := sg) a3
  refine ⟨by omega, by omega, ?_⟩
  show ¬ (w_at sg e (w_w sg s e k).2).1 < e
  omega
theorem w_c_of {c : Nat} (h1 : c ≤ 13) (h2 : ∀ k, k < c → (w_w sg s e k).1 < e) (h3 : c < 13 → ¬ (w_w sg s e c).1 < e) : w_c sg s e = c := by
  have : ∀ m k, k + m = 13 → k ≤ c → w_cg sg s e m k = c := by
    intro m
    induction m with
    | zero => intro k h h4; show k = c; omega
    | succ m ih =>
      intro k h h4
      rw [w_cg]
      rcases Nat.lt_or_ge k c with q | q
      · rw [if_pos (h2 k q)]; exact ih (k + 1) (by omega) q
      · have e1 : k = c := by omega
        rw [e1, if_neg (h3 (by omega))]
  exact this 13 0 (by omega) (by omega)
theorem w_c_is : w_c sg s e ≤ 13 ∧ (∀ k, k < w_c sg s e → (w_w sg s e k).1 < e) ∧ (w_c sg s e < 13 → ¬ (w_w sg s e (w_c sg s e)).1 < e) := by
  have : ∀ m k, k + m = 13 → (∀ j, j < k → (w_w sg s e j).1 < e) → w_cg sg s e m k ≤ 13 ∧ (∀ j, j < w_cg sg s e m k → (w_w sg s e j).1 < e) ∧ (w_cg sg s e m k < 13 → ¬ (w_w sg s e (w_cg sg s e m k)).1 < e) := by
    intro m
    induction m with
    | zero => intro k h h4; exact ⟨by show k ≤ 13; omega, h4, fun z => absurd (show k < 13 from z) (by omega)⟩
    | succ m ih =>
      intro k h h4
      rw [w_cg]
      by_cases q : (w_w sg s e k).1 < e
      · rw [if_pos q]
        refine ih (k + 1) (by omega) (fun j hj => ?_)
        rcases Nat.lt_or_ge j k with z | z
        · exact h4 j z
        · rw [show j = k by omega]; exact q
      · rw [if_neg q]
        exact ⟨by omega, h4, fun _ => q⟩
  exact this 13 0 (by omega) (fun j hj => absurd hj (by omega))
end WM
def wd_at (G : pm_G) (a sa ba ea c : Nat) (bf ef : Nat → Int32) : Prop := G a = some (31, .inr (8, [.ref sa, .ref ba, .ref ea, .int (nI c)])) ∧ G ba = some (32, .inl (0, 13, .inl bf)) ∧ G ea = some (33, .inl (0, 13, .inl ef))
theorem wd_at.fr {G G' : pm_G} {a sa ba ea c : Nat} {bf ef : Nat → Int32} {S : Nat → Prop} (h : wd_at G a sa ba ea c bf ef) (hf : pm_fr S G G') (h1 : ¬ S 31) (h2 : ¬ S 32) (h3 : ¬ S 33) : wd_at G' a sa ba ea c bf ef := ⟨hf _ _ _ h.1 h1, hf _ _ _ h.2.1 h2, hf _ _ _ h.2.2 h3⟩
/-- the words of the signs s .. e as they lie there -/
def ww_ok (sg : Nat → Nat) (s e : Nat) (bf ef : Nat → Int32) : Prop := ∀ k, k < w_c sg s e → k < 12 → bf k = nI (w_w sg s e k).1 ∧ ef k = nI (w_w sg s e k).2
section WD
variable {l : Launch} {X : pm_X} {G : pm_G} {a sa ba ea c0 s e : Nat} {bf ef sf : Nat → Int32} {sg : Nat → Nat}
theorem c_Wd_init (hG : G a = some (31, .inr (8, [.null, .null, .null, .int 0]))) : cn_M l X m_Wd_init 1 2 26 [.ref a, .ref sa] G (fun r G' => r = none ∧ pm_fr (fun c => 31 ≤ c ∧ c ≤ 33) G G' ∧ ∃ ba ea, wd_at G' a sa ba ea 0 (fun _ => 0) (fun _ => 0)) := by
  refine cn_in rfl (Nat.le_of_ble_eq_true rfl) ?_
  refine ev_aload_n d_Wd_init_0 rfl rfl ?_
  refine ev_objInit d_Wd_init_1 hw_507 hw_34 hw_35 (Nat.le_of_ble_eq_true rfl) (by omega) ?_
  refine ev_aload_n d_Wd_init_4 rfl rfl ?_
  refine ev_aload_n d_Wd_init_5 rfl rfl ?_
  refine ev_putF d_Wd_init_6 fo_Wd_9 rfl (fun _ _ _ h => by cases h; rfl) (by first | assumption | exact pm_up_eq | (refine pm_up_ne (by first | assumption | (apply Ne.symm; assumption) | exact pm_neK (G := G) (by assumption) (by assumption) (by omega) | exact pm_neOA (G := G) (by assumption) (by assumption) | exact (pm_neOA (G := G) (by assumption) (by assumption)).symm | exact pm_neN (G := G) (by assumption) (by assumption) | exact (pm_neN (G := G) (by assumption) (by assumption)).symm) ?_; first | assumption | exact pm_up_eq | (refine pm_up_ne (by first | assumption | (apply Ne.symm; assumption) | exact pm_neK (G := G) (by assumption) (by assumption) (by omega) | exact pm_neOA (G := G) (by assumption) (by assumption) | exact (pm_neOA (G := G) (by assumption) (by assumption)).symm | exact pm_neN (G := G) (by assumption) (by assumption) | exact (pm_neN (G := G) (by assumption) (by assumption)).symm) ?_; first | assumption | exact pm_up_eq | (refine pm_up_ne (by first | assumption | (apply Ne.symm; assumption) | exact pm_neK (G := G) (by assumption) (by assumption) (by omega) | exact pm_neOA (G := G) (by assumption) (by assumption) | exact (pm_neOA (G := G) (by assumption) (by assumption)).symm | exact pm_neN (G := G) (by assumption) (by assumption) | exact (pm_neN (G := G) (by assumption) (by assumption)).symm) ?_; first | assumption | exact pm_up_eq | (refine pm_up_ne (by first | assumption | (apply Ne.symm; assumption) | exact pm_neK (G := G) (by assumption) (by assumption) (by omega) | exact pm_neOA (G := G) (by assumption) (by assumption) | exact (pm_neOA (G := G) (by assumption) (by assumption)).symm | exact pm_neN (G := G) (by assumption) (by assumption) | exact (pm_neN (G := G) (by assumption) (by assumption)).symm) ?_; first | assumption | exact pm_up_eq | (refine pm_up_ne (by first | assumption | (apply Ne.symm; assumption) | exact pm_neK (G := G) (by assumption) (by assumption) (by omega) | exact pm_neOA (G := G) (by assumption) (by assumption) | exact (pm_neOA (G := G) (by assumption) (by assumption)).symm | exact pm_neN (G := G) (by assumption) (by assumption) | exact (pm_neN (G := G) (by assumption) (by assumption)).symm) ?_; first | assumption | exact pm_up_eq)))))) rfl rfl (Nat.le_of_ble_eq_true rfl) ?_
  refine ev_aload_n d_Wd_init_9 rfl rfl ?_
  refine ev_bipush (v := 13) d_Wd_init_10 (by decide) ?_
  refine ev_newa (32) (t := 0) (N := 13) (a0 := .inl (fun _ => 0)) d_Wd_init_12 rfl rfl hw_96 (fun _ => rfl) (by decide) (by decide) (by decide) (by omega) (by omega) (fun q_12 hq_12 => ?_)
  obtain ⟨n1, q1⟩ := pm_upN hq_12
  refine ev_putF d_Wd_init_14 fo_Wd_15 rfl (fun _ _ _ h => by cases h; rfl) (by first | assumption | exact pm_up_eq | (refine pm_up_ne (by first | assumption | (apply Ne.symm; assumption) | exact pm_neK (G := G) (by assumption) (by assumption) (by omega) | exact pm_neOA (G := G) (by assumption) (by assumption) | exact (pm_neOA (G := G) (by assumption) (by assumption)).symm | exact pm_neN (G := G) (by assumption) (by assumption) | exact (pm_neN (G := G) (by assumption) (by assumption)).symm) ?_; first | assumption | exact pm_up_eq | (refine pm_up_ne (by first | assumption | (apply Ne.symm; assumption) | exact pm_neK (G := G) (by assumption) (by assumption) (by omega) | exact pm_neOA (G := G) (by assumption) (by assumption) | exact (pm_neOA (G := G) (by assumption) (by assumption)).symm | exact pm_neN (G := G) (by assumption) (by assumption) | exact (pm_neN (G := G) (by assumption) (by assumption)).symm) ?_; first | assumption | exact pm_up_eq | (refine pm_up_ne (by first | assumption | (apply Ne.symm; assumption) | exact pm_neK (G := G) (by assumption) (by assumption) (by omega) | exact pm_neOA (G := G) (by assumption) (by assumption) | exact (pm_neOA (G := G) (by assumption) (by assumption)).symm | exact pm_neN (G := G) (by assumption) (by assumption) | exact (pm_neN (G := G) (by assumption) (by assumption)).symm) ?_; first | assumption | exact pm_up_eq | (refine pm_up_ne (by first | assumption | (apply Ne.symm; assumption) | exact pm_neK (G := G) (by assumption) (by assumption) (by omega) | exact pm_neOA (G := G) (by assumption) (by assumption) | exact (pm_neOA (G := G) (by assumption) (by assumption)).symm | exact pm_neN (G := G) (by assumption) (by assumption) | exact (pm_neN (G := G) (by assumption) (by assumption)).symm) ?_; first | assumption | exact pm_up_eq | (refine pm_up_ne (by first | assumption | (apply Ne.symm; assumption) | exact pm_neK (G := G) (by assumption) (by assumption) (by omega) | exact pm_neOA (G := G) (by assumption) (by assumption) | exact (pm_neOA (G := G) (by assumption) (by assumption)).symm | exact pm_neN (G := G) (by assumption) (by assumption) | exact (pm_neN (G := G) (by assumption) (by assumption)).symm) ?_; first | assumption | exact pm_up_eq)))))) rfl rfl (Nat.le_of_ble_eq_true rfl) ?_
  refine ev_aload_n d_Wd_init_17 rfl rfl ?_
  refine ev_bipush (v := 13) d_Wd_init_18 (by decide) ?_
  refine ev_newa (33) (t := 0) (N := 13) (a0 := .inl (fun _ => 0)) d_Wd_init_20 rfl rfl hw_96 (fun _ => rfl) (by decide) (by decide) (by decide) (by omega) (by omega) (fun q_20 hq_20 => ?_)
  have n2 : a ≠ q_20 := pm_neN pm_up_eq hq_20
  have n3 : q_12 ≠ q_20 := pm_neN (pm_up_ne n1.symm pm_up_eq) hq_20
  refine ev_putF d_Wd_init_22 fo_Wd_19 rfl (fun _ _ _ h => by cases h; rfl) (by first | assumption | exact pm_up_eq | (refine pm_up_ne (by first | assumption | (apply Ne.symm; assumption) | exact pm_neK (G := G) (by assumption) (by assumption) (by omega) | exact pm_neOA (G := G) (by assumption) (by assumption) | exact (pm_neOA (G := G) (by assumption) (by assumption)).symm | exact pm_neN (G := G) (by assumption) (by assumption) | exact (pm_neN (G := G) (by assumption) (by assumption)).symm) ?_; first | assumption | exact pm_up_eq | (refine pm_up_ne (by first | assumption | (apply Ne.symm; assumption) | exact pm_neK (G := G) (by assumption) (by assumption) (by omega) | exact pm_neOA (G := G) (by assumption) (by assumption) | exact (pm_neOA (G := G) (by assumption) (by assumption)).symm | exact pm_neN (G := G) (by assumption) (by assumption) | exact (pm_neN (G := G) (by assumption) (by assumption)).symm) ?_; first | assumption | exact pm_up_eq | (refine pm_up_ne (by first | assumption | (apply Ne.symm; assumption) | exact pm_neK (G := G) (by assumption) (by assumption) (by omega) | exact pm_neOA (G := G) (by assumption) (by assumption) | exact (pm_neOA (G := G) (by assumption) (by assumption)).symm | exact pm_neN (G := G) (by assumption) (by assumption) | exact (pm_neN (G := G) (by assumption) (by assumption)).symm) ?_; first | assumption | exact pm_up_eq | (refine pm_up_ne (by first | assumption | (apply Ne.symm; assumption) | exact pm_neK (G := G) (by assumption) (by assumption) (by omega) | exact pm_neOA (G := G) (by assumption) (by assumption) | exact (pm_neOA (G := G) (by assumption) (by assumption)).symm | exact pm_neN (G := G) (by assumption) (by assumption) | exact (pm_neN (G := G) (by assumption) (by assumption)).symm) ?_; first | assumption | exact pm_up_eq | (refine pm_up_ne (by first | assumption | (apply Ne.symm; assumption) | exact pm_neK (G := G) (by assumption) (by assumption) (by omega) | exact pm_neOA (G := G) (by assumption) (by assumption) | exact (pm_neOA (G := G) (by assumption) (by assumption)).symm | exact pm_neN (G := G) (by assumption) (by assumption) | exact (pm_neN (G := G) (by assumption) (by assumption)).symm) ?_; first | assumption | exact pm_up_eq)))))) rfl rfl (Nat.le_of_ble_eq_true rfl) ?_
  refine ev_vret d_Wd_init_25 rfl ⟨rfl, ?_, q_12, q_20, pm_up_eq, pm_up_ne n1.symm (pm_up_ne n3 (pm_up_ne n1.symm pm_up_eq)), pm_up_ne n2.symm pm_up_eq⟩
  exact ((((pm_fr.put hG (by omega)).tr (pm_fr.new hq_12)).tr (pm_fr.put (pm_up_ne n1 pm_up_eq) (by omega))).tr (pm_fr.new hq_20)).tr (pm_fr.put (pm_up_ne n2 pm_up_eq) (by omega))
def sp_J (sg : Nat → Nat) (s e c i : Nat) (b : Bool) (bf ef : Nat → Int32) : Prop := c ≤ 13 ∧ (∀ k, k < c → (w_w sg s e k).1 < e) ∧ (∀ k, k < c → bf k = nI (w_w sg s e k).1) ∧ (b = false → (∀ k, k < c → ef k = nI (w_w sg s e k).2) ∧ (w_w sg s e c).1 = w_nx sg (e - i) i) ∧ (b = true → 0 < c ∧ (∀ k, k < c - 1 → ef k = nI (w_w sg s e k).2) ∧ ef (c - 1) = nI i ∧ (w_w sg s e (c - 1)).2 = w_en sg (e - i) i)
theorem sp_end {c : Nat} {b : Bool} (h : sp_J sg s e c e b bf ef) : w_c sg s e = c ∧ ww_ok sg s e bf ef := by
  obtain ⟨h1, h2, h3, h4, h5⟩ := h
  have hl : ¬ (w_w sg s e c).1 < e ∧ ∀ k, k < c → ef k = nI (w_w sg s e k).2 := by
    cases b with
    | false =>
      obtain ⟨a1, a2⟩ := h4 rfl
      rw [w_nx_0 (Nat.le_refl _)] at a2
      exact ⟨by omega, a1⟩
    | true =>
      obtain ⟨a1, a2, a3, a4⟩ := h5 rfl
      rw [w_en_0 (Nat.le_refl _)] at a4
      have e1 : (w_w sg s e c).1 = e := by
        rw [show c = (c - 1) + 1 by omega]
        show w_nx sg (e - (w_w sg s e (c - 1)).2) (w_w sg s e (c - 1)).2 = e
        rw [a4, w_nx_0 (Nat.le_refl _)]
      refine ⟨by omega, fun k hk => ?_⟩
      rcases Nat.lt_or_ge k (c - 1) with z | z
      · exact a2 k z
      · rw [show k = c - 1 by omega, a3, a4]
  have e2 := w_c_of h1 h2 (fun _ => hl.1)
  refine ⟨e2, fun k hk _ => ?_⟩
  rw [e2] at hk
  exact ⟨h3 k hk, hl.2 k hk⟩
theorem sp_full {i : Nat} {b : Bool} (h : sp_J sg s e 13 i b bf ef) : w_c sg s e = 13 ∧ ww_ok sg s e bf ef := by
  obtain ⟨h1, h2, h3, h4, h5⟩ := h
  have e2 := w_c_of h1 h2 (fun z => absurd z (by omega))
  refine ⟨e2, fun k hk hk2 => ⟨h3 k (by omega), ?_⟩⟩
  cases b with
  | false => exact (h4 rfl).1 k (by omega)
  | true => exact (h5 rfl).2.1 k (by omega)
/-- a sign more -/
theorem sp_space {c i : Nat} {b : Bool} (hi : i < e) (h : sg i = 32) (hJ : sp_J sg s e c i b bf ef) : sp_J sg s e c (i + 1) false bf ef := by
  obtain ⟨h1, h2, h3, h4, h5⟩ := hJ
  refine ⟨h1, h2, h3, fun _ => ?_, fun z => by cases z⟩
  cases b with
  | false =>
    obtain ⟨a1, a2⟩ := h4 rfl
    exact ⟨a1, by rw [a2, w_nx_s hi h]⟩
  | true =>
    obtain ⟨a1, a2, a3, a4⟩ := h5 rfl
    rw [w_en_s hi h] at a4
    refine ⟨fun k hk => ?_, ?_⟩
    · rcases Nat.lt_or_ge k (c - 1) with z | z
      · exact a2 k z
      · rw [show k = c - 1 by omega, a3, a4]
    · rw [show c = (c - 1) + 1 by omega]
      show w_nx sg (e - (w_w sg s e (c - 1)).2) (w_w sg s e (c - 1)).2 = _
      rw [a4, w_nx_s hi h]
theorem sp_in {c i : Nat} (hi : i < e) (h : ¬ sg i = 32) (hJ : sp_J sg s e c i true bf ef) : sp_J sg s e c (i + 1) true bf (upd ef (c - 1) (nI (i + 1))) := by
  obtain ⟨h1, h2, h3, h4, h5⟩ := hJ
  obtain ⟨a1, a2, a3, a4⟩ := h5 rfl
  refine ⟨h1, h2, h3, fun z => (by cases z), fun _ => ⟨a1, fun k hk => ?_, pk_us, by rw [a4, w_en_n hi h]⟩⟩
  rw [pk_un (by omega)]; exact a2 k hk
theorem sp_new {c i : Nat} (hc : c ≤ 12) (hi : i < e) (h : ¬ sg i = 32) (hJ : sp_J sg s e c i false bf ef) : sp_J sg s e (c + 1) (i + 1) true (upd bf c (nI i)) (upd ef c (nI (i + 1))) := by
  obtain ⟨h1, h2, h3, h4, h5⟩ := hJ
  obtain ⟨a1, a2⟩ := h4 rfl
  rw [w_nx_n hi h] at a2
  refine ⟨by omega, fun k hk => ?_, fun k hk => ?_, fun z => (by cases z), fun _ => ⟨by omega, fun k hk => ?_, ?_, ?_⟩⟩
  · rcases Nat.lt_or_ge k c with z | z
    · exact h2 k z
    · rw [show k = c by omega, a2]; exact hi
  · rcases Nat.lt_or_ge k c with z | z
    · rw [pk_un (by omega)]; exact h3 k z
    · rw [show k = c by omega, pk_us, a2]
  · rw [pk_un (by omega)]; exact a1 k (by omega)
  · rw [show c + 1 - 1 = c by omega, pk_us]
  · rw [show c + 1 - 1 = c by omega]
    have e1 : ∀ k, (w_w sg s e k).2 = w_en sg (e - (w_w sg s e k).1) (w_w sg s e k).1 := by intro k; cases k <;> rfl
    rw [e1, a2, w_en_n hi h]
set_option maxHeartbeats 1000000 in
theorem c_Wd_split (hw : wd_at G a sa ba ea c0 bf ef) (hs : G sa = some (2, .inl (2, 4000, .inl sf))) (hsg : ∀ i, i < e → sf i = nI (sg i) ∧ sg i < 128) (hse : s ≤ e) (he : e ≤ 4000) : cn_M l X m_Wd_split 0 0 0 [.ref a, .int (nI s), .int (nI e)] G (fun r G' => r = none ∧ pm_fr (fun c => 31 ≤ c ∧ c ≤ 33) G G' ∧ ∃ bf' ef', wd_at G' a sa ba ea (w_c sg s e) bf' ef' ∧ ww_ok sg s e bf' ef') := by
  have n1 : a ≠ ba := pm_neOA hw.1 hw.2.1
  have n2 : a ≠ ea := pm_neOA hw.1 hw.2.2
  have n3 : a ≠ sa := pm_neOA hw.1 hs
  have n4 : ba ≠ ea := pm_neK hw.2.1 hw.2.2 (by omega)
  have n5 : sa ≠ ba := pm_neK hs hw.2.1 (by omega)
  have n6 : sa ≠ ea := pm_neK hs hw.2.2 (by omega)
  refine cn_in rfl (Nat.le_of_ble_eq_true rfl) ?_
  have loop : ∀ (m i c : Nat) (b : Bool) (bf ef : Nat → Int32) (G1 : pm_G), i + m = e → pm_fr (fun c => 31 ≤ c ∧ c ≤ 33) G G1 → wd_at G1 a sa ba ea c bf ef → sp_J sg s e c i b bf ef → ev_W l X m_Wd_split 0 0 0 (fun r G' => r = none ∧ pm_fr (fun c => 31 ≤ c ∧ c ≤ 33) G G' ∧ ∃ bf' ef', wd_at G' a sa ba ea (w_c sg s e) bf' ef' ∧ ww_ok sg s e bf' ef') 0 0 10 [(0, .ref a), (1, .int (nI s)), (2, .int (nI e)), (3, .int (bI b)), (4, .int (nI i))] [] G1 := by
    intro m
    induction m with
    | zero =>
      intro i c b bf ef G1 hi hf hw1 hJ
      rw [show i = e by omega] at hJ ⊢
      refine ev_iload d_Wd_split_10 rfl ?_
      refine ev_iload_n d_Wd_split_12 rfl rfl ?_
      refine ev_icmp_ge 128 d_Wd_split_13 (by decide) (fun hc => ?_) (fun hc => ?_)
      · obtain ⟨e1, e2⟩ := sp_end hJ
        rw [← e1] at hw1
        exact ev_vret d_Wd_split_128 rfl (⟨rfl, hf, bf, ef, hw1, e2⟩)
      · exact absurd (Int32.le_refl _) hc
    | succ m ih =>
      intro i c b bf ef G1 hi hf hw1 hJ
      obtain ⟨x1, x2, x3⟩ := id hw1
      have hs1 := hf _ _ _ hs (by omega)
      have hc13 := hJ.1
      refine ev_iload d_Wd_split_10 rfl ?_
      refine ev_iload_n d_Wd_split_12 rfl rfl ?_
      refine ev_icmp_ge 128 d_Wd_split_13 (by decide) (fun hc => ?_) (fun hc => ?_)
      · exact absurd hc (nI_ge (by omega) (by omega))
      · refine ev_iload d_Wd_split_16 rfl ?_
        refine ev_aload_n d_Wd_split_18 rfl rfl ?_
        refine ev_get d_Wd_split_19 fo_Wd_9 (by first | assumption | exact pm_up_eq | (refine pm_up_ne (by first | assumption | (apply Ne.symm; assumption) | exact pm_neK (G := G) (by assumption) (by assumption) (by omega) | exact pm_neOA (G := G) (by assumption) (by assumption) | exact (pm_neOA (G := G) (by assumption) (by assumption)).symm | exact pm_neN (G := G) (by assumption) (by assumption) | exact (pm_neN (G := G) (by assumption) (by assumption)).symm) ?_; first | assumption | exact pm_up_eq | (refine pm_up_ne (by first | assumption | (apply Ne.symm; assumption) | exact pm_neK (G := G) (by assumption) (by assumption) (by omega) | exact pm_neOA (G := G) (by assumption) (by assumption) | exact (pm_neOA (G := G) (by assumption) (by assumption)).symm | exact pm_neN (G := G) (by assumption) (by assumption) | exact (pm_neN (G := G) (by assumption) (by assumption)).symm) ?_; first | assumption | exact pm_up_eq | (refine pm_up_ne (by first | assumption | (apply Ne.symm; assumption) | exact pm_neK (G := G) (by assumption) (by assumption) (by omega) | exact pm_neOA (G := G) (by assumption) (by assumption) | exact (pm_neOA (G := G) (by assumption) (by assumption)).symm | exact pm_neN (G := G) (by assumption) (by assumption) | exact (pm_neN (G := G) (by assumption) (by assumption)).symm) ?_; first | assumption | exact pm_up_eq | (refine pm_up_ne (by first | assumption | (apply Ne.symm; assumption) | exact pm_neK (G := G) (by assumption) (by assumption) (by omega) | exact pm_neOA (G := G) (by assumption) (by assumption) | exact (pm_neOA (G := G) (by assumption) (by assumption)).symm | exact pm_neN (G := G) (by assumption) (by assumption) | exact (pm_neN (G := G) (by assumption) (by assumption)).symm) ?_; first | assumption | exact pm_up_eq | (refine pm_up_ne (by first | assumption | (apply Ne.symm; assumption) | exact pm_neK (G := G) (by assumption) (by assumption) (by omega) | exact pm_neOA (G := G) (by assumption) (by assumption) | exact (pm_neOA (G := G) (by assumption) (by assumption)).symm | exact pm_neN (G := G) (by assumption) (by assumption) | exact (pm_neN (G := G) (by assumption) (by assumption)).symm) ?_; first | assumption | exact pm_up_eq)))))) rfl ?_
        refine ev_alen d_Wd_split_22 rfl (by first | assumption | exact pm_up_eq | (refine pm_up_ne (by first | assumption | (apply Ne.symm; assumption) | exact pm_neK (G := G) (by assumption) (by assumption) (by omega) | exact pm_neOA (G := G) (by assumption) (by assumption) | exact (pm_neOA (G := G) (by assumption) (by assumption)).symm | exact pm_neN (G := G) (by assumption) (by assumption) | exact (pm_neN (G := G) (by assumption) (by assumption)).symm) ?_; first | assumption | exact pm_up_eq | (refine pm_up_ne (by first | assumption | (apply Ne.symm; assumption) | exact pm_neK (G := G) (by assumption) (by assumption) (by omega) | exact pm_neOA (G := G) (by assumption) (by assumption) | exact (pm_neOA (G := G) (by assumption) (by assumption)).symm | exact pm_neN (G := G) (by assumption) (by assumption) | exact (pm_neN (G := G) (by assumption) (by assumption)).symm) ?_; first | assumption | exact pm_up_eq | (refine pm_up_ne (by first | assumption | (apply Ne.symm; assumption) | exact pm_neK (G := G) (by assumption) (by assumption) (by omega) | exact pm_neOA (G := G) (by assumption) (by assumption) | exact (pm_neOA (G := G) (by assumption) (by assumption)).symm | exact pm_neN (G := G) (by assumption) (by assumption) | exact (pm_neN (G := G) (by assumption) (by assumption)).symm) ?_; first | assumption | exact pm_up_eq | (refine pm_up_ne (by first | assumption | (apply Ne.symm; assumption) | exact pm_neK (G := G) (by assumption) (by assumption) (by omega) | exact pm_neOA (G := G) (by assumption) (by assumption) | exact (pm_neOA (G := G) (by assumption) (by assumption)).symm | exact pm_neN (G := G) (by assumption) (by assumption) | exact (pm_neN (G := G) (by assumption) (by assumption)).symm) ?_; first | assumption | exact pm_up_eq | (refine pm_up_ne (by first | assumption | (apply Ne.symm; assumption) | exact pm_neK (G := G) (by assumption) (by assumption) (by omega) | exact pm_neOA (G := G) (by assumption) (by assumption) | exact (pm_neOA (G := G) (by assumption) (by assumption)).symm | exact pm_neN (G := G) (by assumption) (by assumption) | exact (pm_neN (G := G) (by assumption) (by assumption)).symm) ?_; first | assumption | exact pm_up_eq)))))) ?_
        refine ev_icmp_ge 128 d_Wd_split_23 (by decide) (fun hd => ?_) (fun hd => ?_)
        · exact absurd hd (nI_ge (b := 4000) (by omega) (by omega))
        · refine ev_aload_n d_Wd_split_26 rfl rfl ?_
          refine ev_get d_Wd_split_27 fo_Wd_22 (by first | assumption | exact pm_up_eq | (refine pm_up_ne (by first | assumption | (apply Ne.symm; assumption) | exact pm_neK (G := G) (by assumption) (by assumption) (by omega) | exact pm_neOA (G := G) (by assumption) (by assumption) | exact (pm_neOA (G := G) (by assumption) (by assumption)).symm | exact pm_neN (G := G) (by assumption) (by assumption) | exact (pm_neN (G := G) (by assumption) (by assumption)).symm) ?_; first | assumption | exact pm_up_eq | (refine pm_up_ne (by first | assumption | (apply Ne.symm; assumption) | exact pm_neK (G := G) (by assumption) (by assumption) (by omega) | exact pm_neOA (G := G) (by assumption) (by assumption) | exact (pm_neOA (G := G) (by assumption) (by assumption)).symm | exact pm_neN (G := G) (by assumption) (by assumption) | exact (pm_neN (G := G) (by assumption) (by assumption)).symm) ?_; first | assumption | exact pm_up_eq | (refine pm_up_ne (by first | assumption | (apply Ne.symm; assumption) | exact pm_neK (G := G) (by assumption) (by assumption) (by omega) | exact pm_neOA (G := G) (by assumption) (by assumption) | exact (pm_neOA (G := G) (by assumption) (by assumption)).symm | exact pm_neN (G := G) (by assumption) (by assumption) | exact (pm_neN (G := G) (by assumption) (by assumption)).symm) ?_; first | assumption | exact pm_up_eq | (refine pm_up_ne (by first | assumption | (apply Ne.symm; assumption) | exact pm_neK (G := G) (by assumption) (by assumption) (by omega) | exact pm_neOA (G := G) (by assumption) (by assumption) | exact (pm_neOA (G := G) (by assumption) (by assumption)).symm | exact pm_neN (G := G) (by assumption) (by assumption) | exact (pm_neN (G := G) (by assumption) (by assumption)).symm) ?_; first | assumption | exact pm_up_eq | (refine pm_up_ne (by first | assumption | (apply Ne.symm; assumption) | exact pm_neK (G := G) (by assumption) (by assumption) (by omega) | exact pm_neOA (G := G) (by assumption) (by assumption) | exact (pm_neOA (G := G) (by assumption) (by assumption)).symm | exact pm_neN (G := G) (by assumption) (by assumption) | exact (pm_neN (G := G) (by assumption) (by assumption)).symm) ?_; first | assumption | exact pm_up_eq)))))) rfl ?_
          refine ev_bipush (v := 12) d_Wd_split_30 (by decide) ?_
          refine ev_icmp_gt 128 d_Wd_split_32 (by decide) (fun hg => ?_) (fun hg => ?_)
          · have e13 : c = 13 := by
              have : 12 < c := (nI_ltI (a := 12) (by omega) (by omega)).mp hg
              omega
            subst e13
            obtain ⟨e1, e2⟩ := sp_full hJ
            rw [← e1] at hw1
            exact ev_vret d_Wd_split_128 rfl (⟨rfl, hf, bf, ef, hw1, e2⟩)
          · have c12 : c ≤ 12 := Nat.not_lt.mp (fun z => hg (nI_lt (a := 12) z (by omega)))
            refine ev_aload_n d_Wd_split_35 rfl rfl ?_
            refine ev_get d_Wd_split_36 fo_Wd_9 (by first | assumption | exact pm_up_eq | (refine pm_up_ne (by first | assumption | (apply Ne.symm; assumption) | exact pm_neK (G := G) (by assumption) (by assumption) (by omega) | exact pm_neOA (G := G) (by assumption) (by assumption) | exact (pm_neOA (G := G) (by assumption) (by assumption)).symm | exact pm_neN (G := G) (by assumption) (by assumption) | exact (pm_neN (G := G) (by assumption) (by assumption)).symm) ?_; first | assumption | exact pm_up_eq | (refine pm_up_ne (by first | assumption | (apply Ne.symm; assumption) | exact pm_neK (G := G) (by assumption) (by assumption) (by omega) | exact pm_neOA (G := G) (by assumption) (by assumption) | exact (pm_neOA (G := G) (by assumption) (by assumption)).symm | exact pm_neN (G := G) (by assumption) (by assumption) | exact (pm_neN (G := G) (by assumption) (by assumption)).symm) ?_; first | assumption | exact pm_up_eq | (refine pm_up_ne (by first | assumption | (apply Ne.symm; assumption) | exact pm_neK (G := G) (by assumption) (by assumption) (by omega) | exact pm_neOA (G := G) (by assumption) (by assumption) | exact (pm_neOA (G := G) (by assumption) (by assumption)).symm | exact pm_neN (G := G) (by assumption) (by assumption) | exact (pm_neN (G := G) (by assumption) (by assumption)).symm) ?_; first | assumption | exact pm_up_eq | (refine pm_up_ne (by first | assumption | (apply Ne.symm; assumption) | exact pm_neK (G := G) (by assumption) (by assumption) (by omega) | exact pm_neOA (G := G) (by assumption) (by assumption) | exact (pm_neOA (G := G) (by assumption) (by assumption)).symm | exact pm_neN (G := G) (by assumption) (by assumption) | exact (pm_neN (G := G) (by assumption) (by assumption)).symm) ?_; first | assumption | exact pm_up_eq | (refine pm_up_ne (by first | assumption | (apply Ne.symm; assumption) | exact pm_neK (G := G) (by assumption) (by assumption) (by omega) | exact pm_neOA (G := G) (by assumption) (by assumption) | exact (pm_neOA (G := G) (by assumption) (by assumption)).symm | exact pm_neN (G := G) (by assumption) (by assumption) | exact (pm_neN (G := G) (by assumption) (by assumption)).symm) ?_; first | assumption | exact pm_up_eq)))))) rfl ?_
            refine ev_iload d_Wd_split_39 rfl ?_
            refine ev_bald d_Wd_split_41 rfl (by first | assumption | exact pm_up_eq | (refine pm_up_ne (by first | assumption | (apply Ne.symm; assumption) | exact pm_neK (G := G) (by assumption) (by assumption) (by omega) | exact pm_neOA (G := G) (by assumption) (by assumption) | exact (pm_neOA (G := G) (by assumption) (by assumption)).symm | exact pm_neN (G := G) (by assumption) (by assumption) | exact (pm_neN (G := G) (by assumption) (by assumption)).symm) ?_; first | assumption | exact pm_up_eq | (refine pm_up_ne (by first | assumption | (apply Ne.symm; assumption) | exact pm_neK (G := G) (by assumption) (by assumption) (by omega) | exact pm_neOA (G := G) (by assumption) (by assumption) | exact (pm_neOA (G := G) (by assumption) (by assumption)).symm | exact pm_neN (G := G) (by assumption) (by assumption) | exact (pm_neN (G := G) (by assumption) (by assumption)).symm) ?_; first | assumption | exact pm_up_eq | (refine pm_up_ne (by first | assumption | (apply Ne.symm; assumption) | exact pm_neK (G := G) (by assumption) (by assumption) (by omega) | exact pm_neOA (G := G) (by assumption) (by assumption) | exact (pm_neOA (G := G) (by assumption) (by assumption)).symm | exact pm_neN (G := G) (by assumption) (by assumption) | exact (pm_neN (G := G) (by assumption) (by assumption)).symm) ?_; first | assumption | exact pm_up_eq | (refine pm_up_ne (by first | assumption | (apply Ne.symm; assumption) | exact pm_neK (G := G) (by assumption) (by assumption) (by omega) | exact pm_neOA (G := G) (by assumption) (by assumption) | exact (pm_neOA (G := G) (by assumption) (by assumption)).symm | exact pm_neN (G := G) (by assumption) (by assumption) | exact (pm_neN (G := G) (by assumption) (by assumption)).symm) ?_; first | assumption | exact pm_up_eq | (refine pm_up_ne (by first | assumption | (apply Ne.symm; assumption) | exact pm_neK (G := G) (by assumption) (by assumption) (by omega) | exact pm_neOA (G := G) (by assumption) (by assumption) | exact (pm_neOA (G := G) (by assumption) (by assumption)).symm | exact pm_neN (G := G) (by assumption) (by assumption) | exact (pm_neN (G := G) (by assumption) (by assumption)).symm) ?_; first | assumption | exact pm_up_eq)))))) (by first | assumption | exact vp_in_nI (by omega) (by omega)) ?_
            refine ev_bipush (v := 32) d_Wd_split_42 (by decide) ?_
            rw [nI_clamp (by omega), (hsg i (by omega)).1]
            have hb := (hsg i (by omega)).2
            refine ev_icmp_ne 51 d_Wd_split_44 (by decide) (fun hsp => ?_) (fun hsp => ?_)
            · have hns : ¬ sg i = 32 := fun z => hsp (by rw [z]; rfl)
              refine ev_iconst (v := 0) d_Wd_split_51 (by decide) ?_
              refine ev_istore d_Wd_split_52 (by decide) ?_
              refine ev_iload d_Wd_split_54 rfl ?_
              refine ev_if_ne 84 d_Wd_split_56 (by decide) (fun hz => absurd rfl hz) (fun _ => ?_)
              refine ev_iload_n d_Wd_split_59 rfl rfl ?_
              cases b with
              | false =>
                refine ev_if_ne 84 d_Wd_split_60 (by decide) (fun hz => absurd rfl hz) (fun _ => ?_)
                refine ev_aload_n d_Wd_split_63 rfl rfl ?_
                refine ev_get d_Wd_split_64 fo_Wd_15 (by first | assumption | exact pm_up_eq | (refine pm_up_ne (by first | assumption | (apply Ne.symm; assumption) | exact pm_neK (G := G) (by assumption) (by assumption) (by omega) | exact pm_neOA (G := G) (by assumption) (by assumption) | exact (pm_neOA (G := G) (by assumption) (by assumption)).symm | exact pm_neN (G := G) (by assumption) (by assumption) | exact (pm_neN (G := G) (by assumption) (by assumption)).symm) ?_; first | assumption | exact pm_up_eq | (refine pm_up_ne (by first | assumption | (apply Ne.symm; assumption) | exact pm_neK (G := G) (by assumption) (by assumption) (by omega) | exact pm_neOA (G := G) (by assumption) (by assumption) | exact (pm_neOA (G := G) (by assumption) (by assumption)).symm | exact pm_neN (G := G) (by assumption) (by assumption) | exact (pm_neN (G := G) (by assumption) (by assumption)).symm) ?_; first | assumption | exact pm_up_eq | (refine pm_up_ne (by first | assumption | (apply Ne.symm; assumption) | exact pm_neK (G := G) (by assumption) (by assumption) (by omega) | exact pm_neOA (G := G) (by assumption) (by assumption) | exact (pm_neOA (G := G) (by assumption) (by assumption)).symm | exact pm_neN (G := G) (by assumption) (by assumption) | exact (pm_neN (G := G) (by assumption) (by assumption)).symm) ?_; first | assumption | exact pm_up_eq | (refine pm_up_ne (by first | assumption | (apply Ne.symm; assumption) | exact pm_neK (G := G) (by assumption) (by assumption) (by omega) | exact pm_neOA (G := G) (by assumption) (by assumption) | exact (pm_neOA (G := G) (by assumption) (by assumption)).symm | exact pm_neN (G := G) (by assumption) (by assumption) | exact (pm_neN (G := G) (by assumption) (by assumption)).symm) ?_; first | assumption | exact pm_up_eq | (refine pm_up_ne (by first | assumption | (apply Ne.symm; assumption) | exact pm_neK (G := G) (by assumption) (by assumption) (by omega) | exact pm_neOA (G := G) (by assumption) (by assumption) | exact (pm_neOA (G := G) (by assumption) (by assumption)).symm | exact pm_neN (G := G) (by assumption) (by assumption) | exact (pm_neN (G := G) (by assumption) (by assumption)).symm) ?_; first | assumption | exact pm_up_eq)))))) rfl ?_
                refine ev_aload_n d_Wd_split_67 rfl rfl ?_
                refine ev_get d_Wd_split_68 fo_Wd_22 (by first | assumption | exact pm_up_eq | (refine pm_up_ne (by first | assumption | (apply Ne.symm; assumption) | exact pm_neK (G := G) (by assumption) (by assumption) (by omega) | exact pm_neOA (G := G) (by assumption) (by assumption) | exact (pm_neOA (G := G) (by assumption) (by assumption)).symm | exact pm_neN (G := G) (by assumption) (by assumption) | exact (pm_neN (G := G) (by assumption) (by assumption)).symm) ?_; first | assumption | exact pm_up_eq | (refine pm_up_ne (by first | assumption | (apply Ne.symm; assumption) | exact pm_neK (G := G) (by assumption) (by assumption) (by omega) | exact pm_neOA (G := G) (by assumption) (by assumption) | exact (pm_neOA (G := G) (by assumption) (by assumption)).symm | exact pm_neN (G := G) (by assumption) (by assumption) | exact (pm_neN (G := G) (by assumption) (by assumption)).symm) ?_; first | assumption | exact pm_up_eq | (refine pm_up_ne (by first | assumption | (apply Ne.symm; assumption) | exact pm_neK (G := G) (by assumption) (by assumption) (by omega) | exact pm_neOA (G := G) (by assumption) (by assumption) | exact (pm_neOA (G := G) (by assumption) (by assumption)).symm | exact pm_neN (G := G) (by assumption) (by assumption) | exact (pm_neN (G := G) (by assumption) (by assumption)).symm) ?_; first | assumption | exact pm_up_eq | (refine pm_up_ne (by first | assumption | (apply Ne.symm; assumption) | exact pm_neK (G := G) (by assumption) (by assumption) (by omega) | exact pm_neOA (G := G) (by assumption) (by assumption) | exact (pm_neOA (G := G) (by assumption) (by assumption)).symm | exact pm_neN (G := G) (by assumption) (by assumption) | exact (pm_neN (G := G) (by assumption) (by assumption)).symm) ?_; first | assumption | exact pm_up_eq | (refine pm_up_ne (by first | assumption | (apply Ne.symm; assumption) | exact pm_neK (G := G) (by assumption) (by assumption) (by omega) | exact pm_neOA (G := G) (by assumption) (by assumption) | exact (pm_neOA (G := G) (by assumption) (by assumption)).symm | exact pm_neN (G := G) (by assumption) (by assumption) | exact (pm_neN (G := G) (by assumption) (by assumption)).symm) ?_; first | assumption | exact pm_up_eq)))))) rfl ?_
                refine ev_iload d_Wd_split_71 rfl ?_
                refine ev_iast d_Wd_split_73 rfl (by first | assumption | exact pm_up_eq | (refine pm_up_ne (by first | assumption | (apply Ne.symm; assumption) | exact pm_neK (G := G) (by assumption) (by assumption) (by omega) | exact pm_neOA (G := G) (by assumption) (by assumption) | exact (pm_neOA (G := G) (by assumption) (by assumption)).symm | exact pm_neN (G := G) (by assumption) (by assumption) | exact (pm_neN (G := G) (by assumption) (by assumption)).symm) ?_; first | assumption | exact pm_up_eq | (refine pm_up_ne (by first | assumption | (apply Ne.symm; assumption) | exact pm_neK (G := G) (by assumption) (by assumption) (by omega) | exact pm_neOA (G := G) (by assumption) (by assumption) | exact (pm_neOA (G := G) (by assumption) (by assumption)).symm | exact pm_neN (G := G) (by assumption) (by assumption) | exact (pm_neN (G := G) (by assumption) (by assumption)).symm) ?_; first | assumption | exact pm_up_eq | (refine pm_up_ne (by first | assumption | (apply Ne.symm; assumption) | exact pm_neK (G := G) (by assumption) (by assumption) (by omega) | exact pm_neOA (G := G) (by assumption) (by assumption) | exact (pm_neOA (G := G) (by assumption) (by assumption)).symm | exact pm_neN (G := G) (by assumption) (by assumption) | exact (pm_neN (G := G) (by assumption) (by assumption)).symm) ?_; first | assumption | exact pm_up_eq | (refine pm_up_ne (by first | assumption | (apply Ne.symm; assumption) | exact pm_neK (G := G) (by assumption) (by assumption) (by omega) | exact pm_neOA (G := G) (by assumption) (by assumption) | exact (pm_neOA (G := G) (by assumption) (by assumption)).symm | exact pm_neN (G := G) (by assumption) (by assumption) | exact (pm_neN (G := G) (by assumption) (by assumption)).symm) ?_; first | assumption | exact pm_up_eq | (refine pm_up_ne (by first | assumption | (apply Ne.symm; assumption) | exact pm_neK (G := G) (by assumption) (by assumption) (by omega) | exact pm_neOA (G := G) (by assumption) (by assumption) | exact (pm_neOA (G := G) (by assumption) (by assumption)).symm | exact pm_neN (G := G) (by assumption) (by assumption) | exact (pm_neN (G := G) (by assumption) (by assumption)).symm) ?_; first | assumption | exact pm_up_eq)))))) (by first | assumption | exact vp_in_nI (by omega) (by omega)) ?_
                refine ev_aload_n d_Wd_split_74 rfl rfl ?_
                refine ev_dup d_Wd_split_75 rfl ?_
                refine ev_get d_Wd_split_76 fo_Wd_22 (by first | assumption | exact pm_up_eq | (refine pm_up_ne (by first | assumption | (apply Ne.symm; assumption) | exact pm_neK (G := G) (by assumption) (by assumption) (by omega) | exact pm_neOA (G := G) (by assumption) (by assumption) | exact (pm_neOA (G := G) (by assumption) (by assumption)).symm | exact pm_neN (G := G) (by assumption) (by assumption) | exact (pm_neN (G := G) (by assumption) (by assumption)).symm) ?_; first | assumption | exact pm_up_eq | (refine pm_up_ne (by first | assumption | (apply Ne.symm; assumption) | exact pm_neK (G := G) (by assumption) (by assumption) (by omega) | exact pm_neOA (G := G) (by assumption) (by assumption) | exact (pm_neOA (G := G) (by assumption) (by assumption)).symm | exact pm_neN (G := G) (by assumption) (by assumption) | exact (pm_neN (G := G) (by assumption) (by assumption)).symm) ?_; first | assumption | exact pm_up_eq | (refine pm_up_ne (by first | assumption | (apply Ne.symm; assumption) | exact pm_neK (G := G) (by assumption) (by assumption) (by omega) | exact pm_neOA (G := G) (by assumption) (by assumption) | exact (pm_neOA (G := G) (by assumption) (by assumption)).symm | exact pm_neN (G := G) (by assumption) (by assumption) | exact (pm_neN (G := G) (by assumption) (by assumption)).symm) ?_; first | assumption | exact pm_up_eq | (refine pm_up_ne (by first | assumption | (apply Ne.symm; assumption) | exact pm_neK (G := G) (by assumption) (by assumption) (by omega) | exact pm_neOA (G := G) (by assumption) (by assumption) | exact (pm_neOA (G := G) (by assumption) (by assumption)).symm | exact pm_neN (G := G) (by assumption) (by assumption) | exact (pm_neN (G := G) (by assumption) (by assumption)).symm) ?_; first | assumption | exact pm_up_eq | (refine pm_up_ne (by first | assumption | (apply Ne.symm; assumption) | exact pm_neK (G := G) (by assumption) (by assumption) (by omega) | exact pm_neOA (G := G) (by assumption) (by assumption) | exact (pm_neOA (G := G) (by assumption) (by assumption)).symm | exact pm_neN (G := G) (by assumption) (by assumption) | exact (pm_neN (G := G) (by assumption) (by assumption)).symm) ?_; first | assumption | exact pm_up_eq)))))) rfl ?_
                refine ev_iconst (v := 1) d_Wd_split_79 (by decide) ?_
                refine ev_iadd d_Wd_split_80 ?_
                refine ev_put d_Wd_split_81 fo_Wd_22 (by first | assumption | exact pm_up_eq | (refine pm_up_ne (by first | assumption | (apply Ne.symm; assumption) | exact pm_neK (G := G) (by assumption) (by assumption) (by omega) | exact pm_neOA (G := G) (by assumption) (by assumption) | exact (pm_neOA (G := G) (by assumption) (by assumption)).symm | exact pm_neN (G := G) (by assumption) (by assumption) | exact (pm_neN (G := G) (by assumption) (by assumption)).symm) ?_; first | assumption | exact pm_up_eq | (refine pm_up_ne (by first | assumption | (apply Ne.symm; assumption) | exact pm_neK (G := G) (by assumption) (by assumption) (by omega) | exact pm_neOA (G := G) (by assumption) (by assumption) | exact (pm_neOA (G := G) (by assumption) (by assumption)).symm | exact pm_neN (G := G) (by assumption) (by assumption) | exact (pm_neN (G := G) (by assumption) (by assumption)).symm) ?_; first | assumption | exact pm_up_eq | (refine pm_up_ne (by first | assumption | (apply Ne.symm; assumption) | exact pm_neK (G := G) (by assumption) (by assumption) (by omega) | exact pm_neOA (G := G) (by assumption) (by assumption) | exact (pm_neOA (G := G) (by assumption) (by assumption)).symm | exact pm_neN (G := G) (by assumption) (by assumption) | exact (pm_neN (G := G) (by assumption) (by assumption)).symm) ?_; first | assumption | exact pm_up_eq | (refine pm_up_ne (by first | assumption | (apply Ne.symm; assumption) | exact pm_neK (G := G) (by assumption) (by assumption) (by omega) | exact pm_neOA (G := G) (by assumption) (by assumption) | exact (pm_neOA (G := G) (by assumption) (by assumption)).symm | exact pm_neN (G := G) (by assumption) (by assumption) | exact (pm_neN (G := G) (by assumption) (by assumption)).symm) ?_; first | assumption | exact pm_up_eq | (refine pm_up_ne (by first | assumption | (apply Ne.symm; assumption) | exact pm_neK (G := G) (by assumption) (by assumption) (by omega) | exact pm_neOA (G := G) (by assumption) (by assumption) | exact (pm_neOA (G := G) (by assumption) (by assumption)).symm | exact pm_neN (G := G) (by assumption) (by assumption) | exact (pm_neN (G := G) (by assumption) (by assumption)).symm) ?_; first | assumption | exact pm_up_eq)))))) rfl rfl (Nat.le_of_ble_eq_true rfl) ?_
                refine ev_iload d_Wd_split_84 rfl ?_
                refine ev_if_ne 111 d_Wd_split_86 (by decide) (fun hz => absurd rfl hz) (fun _ => ?_)
                rw [nI_clamp (by omega), nI_1]
                refine ev_aload_n d_Wd_split_89 rfl rfl ?_
                refine ev_get d_Wd_split_90 fo_Wd_22 (by first | assumption | exact pm_up_eq | (refine pm_up_ne (by first | assumption | (apply Ne.symm; assumption) | exact pm_neK (G := G) (by assumption) (by assumption) (by omega) | exact pm_neOA (G := G) (by assumption) (by assumption) | exact (pm_neOA (G := G) (by assumption) (by assumption)).symm | exact pm_neN (G := G) (by assumption) (by assumption) | exact (pm_neN (G := G) (by assumption) (by assumption)).symm) ?_; first | assumption | exact pm_up_eq | (refine pm_up_ne (by first | assumption | (apply Ne.symm; assumption) | exact pm_neK (G := G) (by assumption) (by assumption) (by omega) | exact pm_neOA (G := G) (by assumption) (by assumption) | exact (pm_neOA (G := G) (by assumption) (by assumption)).symm | exact pm_neN (G := G) (by assumption) (by assumption) | exact (pm_neN (G := G) (by assumption) (by assumption)).symm) ?_; first | assumption | exact pm_up_eq | (refine pm_up_ne (by first | assumption | (apply Ne.symm; assumption) | exact pm_neK (G := G) (by assumption) (by assumption) (by omega) | exact pm_neOA (G := G) (by assumption) (by assumption) | exact (pm_neOA (G := G) (by assumption) (by assumption)).symm | exact pm_neN (G := G) (by assumption) (by assumption) | exact (pm_neN (G := G) (by assumption) (by assumption)).symm) ?_; first | assumption | exact pm_up_eq | (refine pm_up_ne (by first | assumption | (apply Ne.symm; assumption) | exact pm_neK (G := G) (by assumption) (by assumption) (by omega) | exact pm_neOA (G := G) (by assumption) (by assumption) | exact (pm_neOA (G := G) (by assumption) (by assumption)).symm | exact pm_neN (G := G) (by assumption) (by assumption) | exact (pm_neN (G := G) (by assumption) (by assumption)).symm) ?_; first | assumption | exact pm_up_eq | (refine pm_up_ne (by first | assumption | (apply Ne.symm; assumption) | exact pm_neK (G := G) (by assumption) (by assumption) (by omega) | exact pm_neOA (G := G) (by assumption) (by assumption) | exact (pm_neOA (G := G) (by assumption) (by assumption)).symm | exact pm_neN (G := G) (by assumption) (by assumption) | exact (pm_neN (G := G) (by assumption) (by assumption)).symm) ?_; first | assumption | exact pm_up_eq)))))) rfl ?_
                refine ev_if_le 111 d_Wd_split_93 (by decide) (fun hz => absurd hz (nI_nle (by omega) (by omega))) (fun _ => ?_)
                refine ev_aload_n d_Wd_split_96 rfl rfl ?_
                refine ev_get d_Wd_split_97 fo_Wd_19 (by first | assumption | exact pm_up_eq | (refine pm_up_ne (by first | assumption | (apply Ne.symm; assumption) | exact pm_neK (G := G) (by assumption) (by assumption) (by omega) | exact pm_neOA (G := G) (by assumption) (by assumption) | exact (pm_neOA (G := G) (by assumption) (by assumption)).symm | exact pm_neN (G := G) (by assumption) (by assumption) | exact (pm_neN (G := G) (by assumption) (by assumption)).symm) ?_; first | assumption | exact pm_up_eq | (refine pm_up_ne (by first | assumption | (apply Ne.symm; assumption) | exact pm_neK (G := G) (by assumption) (by assumption) (by omega) | exact pm_neOA (G := G) (by assumption) (by assumption) | exact (pm_neOA (G := G) (by assumption) (by assumption)).symm | exact pm_neN (G := G) (by assumption) (by assumption) | exact (pm_neN (G := G) (by assumption) (by assumption)).symm) ?_; first | assumption | exact pm_up_eq | (refine pm_up_ne (by first | assumption | (apply Ne.symm; assumption) | exact pm_neK (G := G) (by assumption) (by assumption) (by omega) | exact pm_neOA (G := G) (by assumption) (by assumption) | exact (pm_neOA (G := G) (by assumption) (by assumption)).symm | exact pm_neN (G := G) (by assumption) (by assumption) | exact (pm_neN (G := G) (by assumption) (by assumption)).symm) ?_; first | assumption | exact pm_up_eq | (refine pm_up_ne (by first | assumption | (apply Ne.symm; assumption) | exact pm_neK (G := G) (by assumption) (by assumption) (by omega) | exact pm_neOA (G := G) (by assumption) (by assumption) | exact (pm_neOA (G := G) (by assumption) (by assumption)).symm | exact pm_neN (G := G) (by assumption) (by assumption) | exact (pm_neN (G := G) (by assumption) (by assumption)).symm) ?_; first | assumption | exact pm_up_eq | (refine pm_up_ne (by first | assumption | (apply Ne.symm; assumption) | exact pm_neK (G := G) (by assumption) (by assumption) (by omega) | exact pm_neOA (G := G) (by assumption) (by assumption) | exact (pm_neOA (G := G) (by assumption) (by assumption)).symm | exact pm_neN (G := G) (by assumption) (by assumption) | exact (pm_neN (G := G) (by assumption) (by assumption)).symm) ?_; first | assumption | exact pm_up_eq)))))) rfl ?_
                refine ev_aload_n d_Wd_split_100 rfl rfl ?_
                refine ev_get d_Wd_split_101 fo_Wd_22 (by first | assumption | exact pm_up_eq | (refine pm_up_ne (by first | assumption | (apply Ne.symm; assumption) | exact pm_neK (G := G) (by assumption) (by assumption) (by omega) | exact pm_neOA (G := G) (by assumption) (by assumption) | exact (pm_neOA (G := G) (by assumption) (by assumption)).symm | exact pm_neN (G := G) (by assumption) (by assumption) | exact (pm_neN (G := G) (by assumption) (by assumption)).symm) ?_; first | assumption | exact pm_up_eq | (refine pm_up_ne (by first | assumption | (apply Ne.symm; assumption) | exact pm_neK (G := G) (by assumption) (by assumption) (by omega) | exact pm_neOA (G := G) (by assumption) (by assumption) | exact (pm_neOA (G := G) (by assumption) (by assumption)).symm | exact pm_neN (G := G) (by assumption) (by assumption) | exact (pm_neN (G := G) (by assumption) (by assumption)).symm) ?_; first | assumption | exact pm_up_eq | (refine pm_up_ne (by first | assumption | (apply Ne.symm; assumption) | exact pm_neK (G := G) (by assumption) (by assumption) (by omega) | exact pm_neOA (G := G) (by assumption) (by assumption) | exact (pm_neOA (G := G) (by assumption) (by assumption)).symm | exact pm_neN (G := G) (by assumption) (by assumption) | exact (pm_neN (G := G) (by assumption) (by assumption)).symm) ?_; first | assumption | exact pm_up_eq | (refine pm_up_ne (by first | assumption | (apply Ne.symm; assumption) | exact pm_neK (G := G) (by assumption) (by assumption) (by omega) | exact pm_neOA (G := G) (by assumption) (by assumption) | exact (pm_neOA (G := G) (by assumption) (by assumption)).symm | exact pm_neN (G := G) (by assumption) (by assumption) | exact (pm_neN (G := G) (by assumption) (by assumption)).symm) ?_; first | assumption | exact pm_up_eq | (refine pm_up_ne (by first | assumption | (apply Ne.symm; assumption) | exact pm_neK (G := G) (by assumption) (by assumption) (by omega) | exact pm_neOA (G := G) (by assumption) (by assumption) | exact (pm_neOA (G := G) (by assumption) (by assumption)).symm | exact pm_neN (G := G) (by assumption) (by assumption) | exact (pm_neN (G := G) (by assumption) (by assumption)).symm) ?_; first | assumption | exact pm_up_eq)))))) rfl ?_
                refine ev_iconst (v := 1) d_Wd_split_104 (by decide) ?_
                refine ev_isub d_Wd_split_105 ?_
                rw [nI_pred]
                refine ev_iload d_Wd_split_106 rfl ?_
                refine ev_iconst (v := 1) d_Wd_split_108 (by decide) ?_
                refine ev_iadd d_Wd_split_109 ?_
                rw [nI_1]
                refine ev_iast d_Wd_split_110 rfl (by first | assumption | exact pm_up_eq | (refine pm_up_ne (by first | assumption | (apply Ne.symm; assumption) | exact pm_neK (G := G) (by assumption) (by assumption) (by omega) | exact pm_neOA (G := G) (by assumption) (by assumption) | exact (pm_neOA (G := G) (by assumption) (by assumption)).symm | exact pm_neN (G := G) (by assumption) (by assumption) | exact (pm_neN (G := G) (by assumption) (by assumption)).symm) ?_; first | assumption | exact pm_up_eq | (refine pm_up_ne (by first | assumption | (apply Ne.symm; assumption) | exact pm_neK (G := G) (by assumption) (by assumption) (by omega) | exact pm_neOA (G := G) (by assumption) (by assumption) | exact (pm_neOA (G := G) (by assumption) (by assumption)).symm | exact pm_neN (G := G) (by assumption) (by assumption) | exact (pm_neN (G := G) (by assumption) (by assumption)).symm) ?_; first | assumption | exact pm_up_eq | (refine pm_up_ne (by first | assumption | (apply Ne.symm; assumption) | exact pm_neK (G := G) (by assumption) (by assumption) (by omega) | exact pm_neOA (G := G) (by assumption) (by assumption) | exact (pm_neOA (G := G) (by assumption) (by assumption)).symm | exact pm_neN (G := G) (by assumption) (by assumption) | exact (pm_neN (G := G) (by assumption) (by assumption)).symm) ?_; first | assumption | exact pm_up_eq | (refine pm_up_ne (by first | assumption | (apply Ne.symm; assumption) | exact pm_neK (G := G) (by assumption) (by assumption) (by omega) | exact pm_neOA (G := G) (by assumption) (by assumption) | exact (pm_neOA (G := G) (by assumption) (by assumption)).symm | exact pm_neN (G := G) (by assumption) (by assumption) | exact (pm_neN (G := G) (by assumption) (by assumption)).symm) ?_; first | assumption | exact pm_up_eq | (refine pm_up_ne (by first | assumption | (apply Ne.symm; assumption) | exact pm_neK (G := G) (by assumption) (by assumption) (by omega) | exact pm_neOA (G := G) (by assumption) (by assumption) | exact (pm_neOA (G := G) (by assumption) (by assumption)).symm | exact pm_neN (G := G) (by assumption) (by assumption) | exact (pm_neN (G := G) (by assumption) (by assumption)).symm) ?_; first | assumption | exact pm_up_eq)))))) (by first | assumption | exact vp_in_nI (by omega) (by omega)) ?_
                refine ev_iload d_Wd_split_111 rfl ?_
                refine ev_if_ne 120 d_Wd_split_113 (by decide) (fun hz => absurd rfl hz) (fun _ => ?_)
                refine ev_iconst (v := 1) d_Wd_split_116 (by decide) ?_
                refine ev_goto 121 d_Wd_split_117 (by decide) ?_
                refine ev_istore_n d_Wd_split_121 rfl (by decide) ?_
                refine ev_iinc d_Wd_split_122 rfl (by first | exact nI_1 _ | rfl) (by decide) ?_
                refine ev_goto 10 d_Wd_split_125 (by decide) ?_
                refine ev_keep [0, 1, 2, 3, 4] ?_
                rw [nI_clamp (by omega)]
                exact ih (i + 1) (c + 1) true (upd bf c (nI i)) (upd ef c (nI (i + 1))) _ (by omega) (((hf.tr (pm_fr.put x2 (by omega))).tr (pm_fr.put (pm_up_ne n1 x1) (by omega))).tr (pm_fr.put (pm_up_ne n2.symm (pm_up_ne n4.symm x3)) (by omega))) ⟨pm_up_ne n2 pm_up_eq, pm_up_ne n4 (pm_up_ne n1.symm pm_up_eq), pm_up_eq⟩ (sp_new c12 (by omega) hns hJ)
              | true =>
                have hc0 := (hJ.2.2.2.2 rfl).1
                refine ev_if_ne 84 d_Wd_split_60 (by decide) (fun _ => ?_) (fun hz => absurd hz (by decide))
                refine ev_iload d_Wd_split_84 rfl ?_
                refine ev_if_ne 111 d_Wd_split_86 (by decide) (fun hz => absurd rfl hz) (fun _ => ?_)
                refine ev_aload_n d_Wd_split_89 rfl rfl ?_
                refine ev_get d_Wd_split_90 fo_Wd_22 (by first | assumption | exact pm_up_eq | (refine pm_up_ne (by first | assumption | (apply Ne.symm; assumption) | exact pm_neK (G := G) (by assumption) (by assumption) (by omega) | exact pm_neOA (G := G) (by assumption) (by assumption) | exact (pm_neOA (G := G) (by assumption) (by assumption)).symm | exact pm_neN (G := G) (by assumption) (by assumption) | exact (pm_neN (G := G) (by assumption) (by assumption)).symm) ?_; first | assumption | exact pm_up_eq | (refine pm_up_ne (by first | assumption | (apply Ne.symm; assumption) | exact pm_neK (G := G) (by assumption) (by assumption) (by omega) | exact pm_neOA (G := G) (by assumption) (by assumption) | exact (pm_neOA (G := G) (by assumption) (by assumption)).symm | exact pm_neN (G := G) (by assumption) (by assumption) | exact (pm_neN (G := G) (by assumption) (by assumption)).symm) ?_; first | assumption | exact pm_up_eq | (refine pm_up_ne (by first | assumption | (apply Ne.symm; assumption) | exact pm_neK (G := G) (by assumption) (by assumption) (by omega) | exact pm_neOA (G := G) (by assumption) (by assumption) | exact (pm_neOA (G := G) (by assumption) (by assumption)).symm | exact pm_neN (G := G) (by assumption) (by assumption) | exact (pm_neN (G := G) (by assumption) (by assumption)).symm) ?_; first | assumption | exact pm_up_eq | (refine pm_up_ne (by first | assumption | (apply Ne.symm; assumption) | exact pm_neK (G := G) (by assumption) (by assumption) (by omega) | exact pm_neOA (G := G) (by assumption) (by assumption) | exact (pm_neOA (G := G) (by assumption) (by assumption)).symm | exact pm_neN (G := G) (by assumption) (by assumption) | exact (pm_neN (G := G) (by assumption) (by assumption)).symm) ?_; first | assumption | exact pm_up_eq | (refine pm_up_ne (by first | assumption | (apply Ne.symm; assumption) | exact pm_neK (G := G) (by assumption) (by assumption) (by omega) | exact pm_neOA (G := G) (by assumption) (by assumption) | exact (pm_neOA (G := G) (by assumption) (by assumption)).symm | exact pm_neN (G := G) (by assumption) (by assumption) | exact (pm_neN (G := G) (by assumption) (by assumption)).symm) ?_; first | assumption | exact pm_up_eq)))))) rfl ?_
                refine ev_if_le 111 d_Wd_split_93 (by decide) (fun hz => absurd hz (nI_nle (by omega) (by omega))) (fun _ => ?_)
                have e1 : nI c - 1 = nI (c - 1) := pk_sub (a := c) (b := 1) hc0
                refine ev_aload_n d_Wd_split_96 rfl rfl ?_
                refine ev_get d_Wd_split_97 fo_Wd_19 (by first | assumption | exact pm_up_eq | (refine pm_up_ne (by first | assumption | (apply Ne.symm; assumption) | exact pm_neK (G := G) (by assumption) (by assumption) (by omega) | exact pm_neOA (G := G) (by assumption) (by assumption) | exact (pm_neOA (G := G) (by assumption) (by assumption)).symm | exact pm_neN (G := G) (by assumption) (by assumption) | exact (pm_neN (G := G) (by assumption) (by assumption)).symm) ?_; first | assumption | exact pm_up_eq | (refine pm_up_ne (by first | assumption | (apply Ne.symm; assumption) | exact pm_neK (G := G) (by assumption) (by assumption) (by omega) | exact pm_neOA (G := G) (by assumption) (by assumption) | exact (pm_neOA (G := G) (by assumption) (by assumption)).symm | exact pm_neN (G := G) (by assumption) (by assumption) | exact (pm_neN (G := G) (by assumption) (by assumption)).symm) ?_; first | assumption | exact pm_up_eq | (refine pm_up_ne (by first | assumption | (apply Ne.symm; assumption) | exact pm_neK (G := G) (by assumption) (by assumption) (by omega) | exact pm_neOA (G := G) (by assumption) (by assumption) | exact (pm_neOA (G := G) (by assumption) (by assumption)).symm | exact pm_neN (G := G) (by assumption) (by assumption) | exact (pm_neN (G := G) (by assumption) (by assumption)).symm) ?_; first | assumption | exact pm_up_eq | (refine pm_up_ne (by first | assumption | (apply Ne.symm; assumption) | exact pm_neK (G := G) (by assumption) (by assumption) (by omega) | exact pm_neOA (G := G) (by assumption) (by assumption) | exact (pm_neOA (G := G) (by assumption) (by assumption)).symm | exact pm_neN (G := G) (by assumption) (by assumption) | exact (pm_neN (G := G) (by assumption) (by assumption)).symm) ?_; first | assumption | exact pm_up_eq | (refine pm_up_ne (by first | assumption | (apply Ne.symm; assumption) | exact pm_neK (G := G) (by assumption) (by assumption) (by omega) | exact pm_neOA (G := G) (by assumption) (by assumption) | exact (pm_neOA (G := G) (by assumption) (by assumption)).symm | exact pm_neN (G := G) (by assumption) (by assumption) | exact (pm_neN (G := G) (by assumption) (by assumption)).symm) ?_; first | assumption | exact pm_up_eq)))))) rfl ?_
                refine ev_aload_n d_Wd_split_100 rfl rfl ?_
                refine ev_get d_Wd_split_101 fo_Wd_22 (by first | assumption | exact pm_up_eq | (refine pm_up_ne (by first | assumption | (apply Ne.symm; assumption) | exact pm_neK (G := G) (by assumption) (by assumption) (by omega) | exact pm_neOA (G := G) (by assumption) (by assumption) | exact (pm_neOA (G := G) (by assumption) (by assumption)).symm | exact pm_neN (G := G) (by assumption) (by assumption) | exact (pm_neN (G := G) (by assumption) (by assumption)).symm) ?_; first | assumption | exact pm_up_eq | (refine pm_up_ne (by first | assumption | (apply Ne.symm; assumption) | exact pm_neK (G := G) (by assumption) (by assumption) (by omega) | exact pm_neOA (G := G) (by assumption) (by assumption) | exact (pm_neOA (G := G) (by assumption) (by assumption)).symm | exact pm_neN (G := G) (by assumption) (by assumption) | exact (pm_neN (G := G) (by assumption) (by assumption)).symm) ?_; first | assumption | exact pm_up_eq | (refine pm_up_ne (by first | assumption | (apply Ne.symm; assumption) | exact pm_neK (G := G) (by assumption) (by assumption) (by omega) | exact pm_neOA (G := G) (by assumption) (by assumption) | exact (pm_neOA (G := G) (by assumption) (by assumption)).symm | exact pm_neN (G := G) (by assumption) (by assumption) | exact (pm_neN (G := G) (by assumption) (by assumption)).symm) ?_; first | assumption | exact pm_up_eq | (refine pm_up_ne (by first | assumption | (apply Ne.symm; assumption) | exact pm_neK (G := G) (by assumption) (by assumption) (by omega) | exact pm_neOA (G := G) (by assumption) (by assumption) | exact (pm_neOA (G := G) (by assumption) (by assumption)).symm | exact pm_neN (G := G) (by assumption) (by assumption) | exact (pm_neN (G := G) (by assumption) (by assumption)).symm) ?_; first | assumption | exact pm_up_eq | (refine pm_up_ne (by first | assumption | (apply Ne.symm; assumption) | exact pm_neK (G := G) (by assumption) (by assumption) (by omega) | exact pm_neOA (G := G) (by assumption) (by assumption) | exact (pm_neOA (G := G) (by assumption) (by assumption)).symm | exact pm_neN (G := G) (by assumption) (by assumption) | exact (pm_neN (G := G) (by assumption) (by assumption)).symm) ?_; first | assumption | exact pm_up_eq)))))) rfl ?_
                refine ev_iconst (v := 1) d_Wd_split_104 (by decide) ?_
                refine ev_isub d_Wd_split_105 ?_
                rw [e1]
                refine ev_iload d_Wd_split_106 rfl ?_
                refine ev_iconst (v := 1) d_Wd_split_108 (by decide) ?_
                refine ev_iadd d_Wd_split_109 ?_
                rw [nI_1]
                refine ev_iast d_Wd_split_110 rfl (by first | assumption | exact pm_up_eq | (refine pm_up_ne (by first | assumption | (apply Ne.symm; assumption) | exact pm_neK (G := G) (by assumption) (by assumption) (by omega) | exact pm_neOA (G := G) (by assumption) (by assumption) | exact (pm_neOA (G := G) (by assumption) (by assumption)).symm | exact pm_neN (G := G) (by assumption) (by assumption) | exact (pm_neN (G := G) (by assumption) (by assumption)).symm) ?_; first | assumption | exact pm_up_eq | (refine pm_up_ne (by first | assumption | (apply Ne.symm; assumption) | exact pm_neK (G := G) (by assumption) (by assumption) (by omega) | exact pm_neOA (G := G) (by assumption) (by assumption) | exact (pm_neOA (G := G) (by assumption) (by assumption)).symm | exact pm_neN (G := G) (by assumption) (by assumption) | exact (pm_neN (G := G) (by assumption) (by assumption)).symm) ?_; first | assumption | exact pm_up_eq | (refine pm_up_ne (by first | assumption | (apply Ne.symm; assumption) | exact pm_neK (G := G) (by assumption) (by assumption) (by omega) | exact pm_neOA (G := G) (by assumption) (by assumption) | exact (pm_neOA (G := G) (by assumption) (by assumption)).symm | exact pm_neN (G := G) (by assumption) (by assumption) | exact (pm_neN (G := G) (by assumption) (by assumption)).symm) ?_; first | assumption | exact pm_up_eq | (refine pm_up_ne (by first | assumption | (apply Ne.symm; assumption) | exact pm_neK (G := G) (by assumption) (by assumption) (by omega) | exact pm_neOA (G := G) (by assumption) (by assumption) | exact (pm_neOA (G := G) (by assumption) (by assumption)).symm | exact pm_neN (G := G) (by assumption) (by assumption) | exact (pm_neN (G := G) (by assumption) (by assumption)).symm) ?_; first | assumption | exact pm_up_eq | (refine pm_up_ne (by first | assumption | (apply Ne.symm; assumption) | exact pm_neK (G := G) (by assumption) (by assumption) (by omega) | exact pm_neOA (G := G) (by assumption) (by assumption) | exact (pm_neOA (G := G) (by assumption) (by assumption)).symm | exact pm_neN (G := G) (by assumption) (by assumption) | exact (pm_neN (G := G) (by assumption) (by assumption)).symm) ?_; first | assumption | exact pm_up_eq)))))) (by first | assumption | exact vp_in_nI (by omega) (by omega)) ?_
                refine ev_iload d_Wd_split_111 rfl ?_
                refine ev_if_ne 120 d_Wd_split_113 (by decide) (fun hz => absurd rfl hz) (fun _ => ?_)
                refine ev_iconst (v := 1) d_Wd_split_116 (by decide) ?_
                refine ev_goto 121 d_Wd_split_117 (by decide) ?_
                refine ev_istore_n d_Wd_split_121 rfl (by decide) ?_
                refine ev_iinc d_Wd_split_122 rfl (by first | exact nI_1 _ | rfl) (by decide) ?_
                refine ev_goto 10 d_Wd_split_125 (by decide) ?_
                refine ev_keep [0, 1, 2, 3, 4] ?_
                rw [nI_clamp (by omega)]
                exact ih (i + 1) c true bf (upd ef (c - 1) (nI (i + 1))) _ (by omega) (hf.tr (pm_fr.put x3 (by omega))) ⟨pm_up_ne n2 x1, pm_up_ne n4 x2, pm_up_eq⟩ (sp_in (by omega) hns hJ)
            · have hsp2 : sg i = 32 := (nI_eq (by omega) (b := 32) (by omega)).mp hsp
              refine ev_iconst (v := 1) d_Wd_split_47 (by decide) ?_
              refine ev_goto 52 d_Wd_split_48 (by decide) ?_
              refine ev_istore d_Wd_split_52 (by decide) ?_
              refine ev_iload d_Wd_split_54 rfl ?_
              refine ev_if_ne 84 d_Wd_split_56 (by decide) (fun _ => ?_) (fun hz => absurd hz (by decide))
              refine ev_iload d_Wd_split_84 rfl ?_
              refine ev_if_ne 111 d_Wd_split_86 (by decide) (fun _ => ?_) (fun hz => absurd hz (by decide))
              refine ev_iload d_Wd_split_111 rfl ?_
              refine ev_if_ne 120 d_Wd_split_113 (by decide) (fun _ => ?_) (fun hz => absurd hz (by decide))
              refine ev_iconst (v := 0) d_Wd_split_120 (by decide) ?_
              refine ev_istore_n d_Wd_split_121 rfl (by decide) ?_
              refine ev_iinc d_Wd_split_122 rfl (by first | exact nI_1 _ | rfl) (by decide) ?_
              refine ev_goto 10 d_Wd_split_125 (by decide) ?_
              refine ev_keep [0, 1, 2, 3, 4] ?_
              exact ih (i + 1) c false bf ef _ (by omega) hf hw1 (sp_space (by omega) hsp2 hJ)
  obtain ⟨y1, y2, y3⟩ := id hw
  refine ev_aload_n d_Wd_split_0 rfl rfl ?_
  refine ev_iconst (v := 0) d_Wd_split_1 (by decide) ?_
  refine ev_put d_Wd_split_2 fo_Wd_22 (by first | assumption | exact pm_up_eq | (refine pm_up_ne (by first | assumption | (apply Ne.symm; assumption) | exact pm_neK (G := G) (by assumption) (by assumption) (by omega) | exact pm_neOA (G := G) (by assumption) (by assumption) | exact (pm_neOA (G := G) (by assumption) (by assumption)).symm | exact pm_neN (G := G) (by assumption) (by assumption) | exact (pm_neN (G := G) (by assumption) (by assumption)).symm) ?_; first | assumption | exact pm_up_eq | (refine pm_up_ne (by first | assumption | (apply Ne.symm; assumption) | exact pm_neK (G := G) (by assumption) (by assumption) (by omega) | exact pm_neOA (G := G) (by assumption) (by assumption) | exact (pm_neOA (G := G) (by assumption) (by assumption)).symm | exact pm_neN (G := G) (by assumption) (by assumption) | exact (pm_neN (G := G) (by assumption) (by assumption)).symm) ?_; first | assumption | exact pm_up_eq | (refine pm_up_ne (by first | assumption | (apply Ne.symm; assumption) | exact pm_neK (G := G) (by assumption) (by assumption) (by omega) | exact pm_neOA (G := G) (by assumption) (by assumption) | exact (pm_neOA (G := G) (by assumption) (by assumption)).symm | exact pm_neN (G := G) (by assumption) (by assumption) | exact (pm_neN (G := G) (by assumption) (by assumption)).symm) ?_; first | assumption | exact pm_up_eq | (refine pm_up_ne (by first | assumption | (apply Ne.symm; assumption) | exact pm_neK (G := G) (by assumption) (by assumption) (by omega) | exact pm_neOA (G := G) (by assumption) (by assumption) | exact (pm_neOA (G := G) (by assumption) (by assumption)).symm | exact pm_neN (G := G) (by assumption) (by assumption) | exact (pm_neN (G := G) (by assumption) (by assumption)).symm) ?_; first | assumption | exact pm_up_eq | (refine pm_up_ne (by first | assumption | (apply Ne.symm; assumption) | exact pm_neK (G := G) (by assumption) (by assumption) (by omega) | exact pm_neOA (G := G) (by assumption) (by assumption) | exact (pm_neOA (G := G) (by assumption) (by assumption)).symm | exact pm_neN (G := G) (by assumption) (by assumption) | exact (pm_neN (G := G) (by assumption) (by assumption)).symm) ?_; first | assumption | exact pm_up_eq)))))) rfl rfl (Nat.le_of_ble_eq_true rfl) ?_
  refine ev_iconst (v := 0) d_Wd_split_5 (by decide) ?_
  refine ev_istore_n d_Wd_split_6 rfl (by decide) ?_
  refine ev_iload_n d_Wd_split_7 rfl rfl ?_
  refine ev_istore d_Wd_split_8 (by decide) ?_
  refine loop (e - s) s 0 false bf ef _ (by omega) (pm_fr.put y1 (by omega)) ⟨pm_up_eq, pm_up_ne n1.symm y2, pm_up_ne n2.symm y3⟩ ?_
  exact ⟨by omega, fun k hk => absurd hk (by omega), fun k hk => absurd hk (by omega), fun _ => ⟨fun k hk => absurd hk (by omega), rfl⟩, fun z => by cases z⟩
theorem c_Wd_has {c w : Nat} (hw : wd_at G a sa ba ea c bf ef) (hc : c ≤ 13) (hwd : w < 100) : cn_M l X m_Wd_has 0 0 0 [.ref a, .int (nI w)] G (fun r G' => r = some (.int (if w < c ∧ w < 12 then 1 else 0)) ∧ G = G') := by
  obtain ⟨x1, x2, x3⟩ := id hw
  refine cn_in rfl (Nat.le_of_ble_eq_true rfl) ?_
  refine ev_iload_n d_Wd_has_0 rfl rfl ?_
  refine ev_if_lt 22 d_Wd_has_1 (by decide) (fun hz => absurd hz (nI_pos (by omega))) (fun _ => ?_)
  refine ev_iload_n d_Wd_has_4 rfl rfl ?_
  refine ev_aload_n d_Wd_has_5 rfl rfl ?_
  refine ev_get d_Wd_has_6 fo_Wd_22 (by first | assumption | exact pm_up_eq | (refine pm_up_ne (by first | assumption | (apply Ne.symm; assumption) | exact pm_neK (G := G) (by assumption) (by assumption) (by omega) | exact pm_neOA (G := G) (by assumption) (by assumption) | exact (pm_neOA (G := G) (by assumption) (by assumption)).symm | exact pm_neN (G := G) (by assumption) (by assumption) | exact (pm_neN (G := G) (by assumption) (by assumption)).symm) ?_; first | assumption | exact pm_up_eq | (refine pm_up_ne (by first | assumption | (apply Ne.symm; assumption) | exact pm_neK (G := G) (by assumption) (by assumption) (by omega) | exact pm_neOA (G := G) (by assumption) (by assumption) | exact (pm_neOA (G := G) (by assumption) (by assumption)).symm | exact pm_neN (G := G) (by assumption) (by assumption) | exact (pm_neN (G := G) (by assumption) (by assumption)).symm) ?_; first | assumption | exact pm_up_eq | (refine pm_up_ne (by first | assumption | (apply Ne.symm; assumption) | exact pm_neK (G := G) (by assumption) (by assumption) (by omega) | exact pm_neOA (G := G) (by assumption) (by assumption) | exact (pm_neOA (G := G) (by assumption) (by assumption)).symm | exact pm_neN (G := G) (by assumption) (by assumption) | exact (pm_neN (G := G) (by assumption) (by assumption)).symm) ?_; first | assumption | exact pm_up_eq | (refine pm_up_ne (by first | assumption | (apply Ne.symm; assumption) | exact pm_neK (G := G) (by assumption) (by assumption) (by omega) | exact pm_neOA (G := G) (by assumption) (by assumption) | exact (pm_neOA (G := G) (by assumption) (by assumption)).symm | exact pm_neN (G := G) (by assumption) (by assumption) | exact (pm_neN (G := G) (by assumption) (by assumption)).symm) ?_; first | assumption | exact pm_up_eq | (refine pm_up_ne (by first | assumption | (apply Ne.symm; assumption) | exact pm_neK (G := G) (by assumption) (by assumption) (by omega) | exact pm_neOA (G := G) (by assumption) (by assumption) | exact (pm_neOA (G := G) (by assumption) (by assumption)).symm | exact pm_neN (G := G) (by assumption) (by assumption) | exact (pm_neN (G := G) (by assumption) (by assumption)).symm) ?_; first | assumption | exact pm_up_eq)))))) rfl ?_
  refine ev_icmp_ge 22 d_Wd_has_9 (by decide) (fun h1 => ?_) (fun h1 => ?_)
  · have : c ≤ w := (nI_leI (by omega) (by omega)).mp h1
    refine ev_iconst (v := 0) d_Wd_has_22 (by decide) ?_
    exact ev_zret d_Wd_has_23 rfl rfl (⟨by rw [if_neg (by omega)], rfl⟩)
  · have q1 : w < c := Nat.not_le.mp (fun z => h1 (nI_le z (by omega)))
    refine ev_iload_n d_Wd_has_12 rfl rfl ?_
    refine ev_bipush (v := 12) d_Wd_has_13 (by decide) ?_
    refine ev_icmp_ge 22 d_Wd_has_15 (by decide) (fun h2 => ?_) (fun h2 => ?_)
    · have : 12 ≤ w := (nI_leI (a := 12) (by omega) (by omega)).mp h2
      refine ev_iconst (v := 0) d_Wd_has_22 (by decide) ?_
      exact ev_zret d_Wd_has_23 rfl rfl (⟨by rw [if_neg (by omega)], rfl⟩)
    · have q2 : w < 12 := Nat.not_le.mp (fun z => h2 (nI_le (a := 12) z (by omega)))
      refine ev_iconst (v := 1) d_Wd_has_18 (by decide) ?_
      refine ev_goto 23 d_Wd_has_19 (by decide) ?_
      exact ev_zret d_Wd_has_23 rfl rfl (⟨by rw [if_pos ⟨q1, q2⟩], rfl⟩)
end WD
