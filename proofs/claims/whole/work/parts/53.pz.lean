/-! WHAT A TEXT SAYS, BY LINES (shared by both sides): values, tests, steps, the places that are open -/
noncomputable def zIf {α : Type} (p : Prop) (a b : α) : α := @ite α p (Classical.propDecidable p) a b
theorem zIf_t {α : Type} {p : Prop} {a b : α} (h : p) : zIf p a b = a := @if_pos p (Classical.propDecidable p) h α a b
theorem zIf_f {α : Type} {p : Prop} {a b : α} (h : ¬ p) : zIf p a b = b := @if_neg p (Classical.propDecidable p) h α a b
abbrev pz : Type := (Nat × (Nat → Nat)) × (Nat × (Nat → Nat) × (Nat → Nat) × (Nat → Option Nat) × (Nat → Int32)) × (Nat × (Nat → Nat → Int32) × (Nat → Nat) × (Nat → Nat) × (Nat → Nat → Int32)) × (Nat × (Nat → Nat))
def zVn (z : pz) : Nat := z.1.1
def zVk (z : pz) : Nat → Nat := z.1.2
def zTn (z : pz) : Nat := z.2.1.1
def zTk (z : pz) : Nat → Nat := z.2.1.2.1
def zFi (z : pz) : Nat → Nat := z.2.1.2.2.1
def zAl (z : pz) : Nat → Option Nat := z.2.1.2.2.2.1
def zNm (z : pz) : Nat → Int32 := z.2.1.2.2.2.2
def zSn (z : pz) : Nat := z.2.2.1.1
def zSd (z : pz) : Nat → Nat → Int32 := z.2.2.1.2.1
def zBh (z : pz) : Nat → Nat := z.2.2.1.2.2.1
def zNl (z : pz) : Nat → Nat := z.2.2.1.2.2.2.1
def zNf (z : pz) : Nat → Nat → Int32 := z.2.2.1.2.2.2.2
def zDp (z : pz) : Nat := z.2.2.2.1
def zOp (z : pz) : Nat → Nat := z.2.2.2.2
/-- the place behind the last step of test i -/
def zBe (z : pz) (i : Nat) : Nat := if i + 1 < zTn z then zFi z (i + 1) else zSn z
def te_D (fi be : Nat) (al : Option Nat) (nm : Int32) : Nat → Int32 := fun j => if j = 1 then nI fi else if j = 2 then nI be else if j = 3 then bhI (al.elim 0 (· + 1)) else if j = 4 then nm else 0
/-- the tests' and steps' fields in the class -/
def zTD (z : pz) (i : Nat) : Nat → Int32 := te_D (zFi z i) (zBe z i) (zAl z i) (zNm z i)
def zSD (z : pz) (i : Nat) : Nat → Int32 := upd (zSd z i) 7 (nI (zBh z i))
def sf_D (kd li v op nu se : Int32) : Nat → Int32 := fun j => if j = 0 then kd else if j = 1 then li else if j = 2 then v else if j = 3 then op else if j = 4 then nu else if j = 5 then se else 0
/-- the number of the value with this key -/
def zvo (vk : Nat → Nat) (key : Nat) : Nat → Nat → Nat
  | 0, _ => 0
  | m + 1, i => if vk i = key then i + 1 else zvo vk key m (i + 1)
def zTaken (z : pz) (key : Nat) : Prop := (∃ i, i < zTn z ∧ zTk z i = key) ∨ 0 < zvo (zVk z) key (zVn z) 0
def pz_name (key : Nat) (z : pz) : pz := ((zVn z + 1, va_up (zVk z) (zVn z) key), z.2)
def pz_test (key : Nat) (z : pz) : pz := (z.1, (zTn z + 1, va_up (zTk z) (zTn z) key, va_up (zFi z) (zTn z) (zSn z), va_up (zAl z) (zTn z) none, va_up (zNm z) (zTn z) 0), z.2.2)
def pz_end (z : pz) : pz := (z.1, z.2.1, (zSn z, zSd z, va_up (zBh z) (zOp z (zDp z - 1)) (zSn z), zNl z, zNf z), (zDp z - 1, zOp z))
def pz_open (z : pz) : pz := (z.1, z.2.1, z.2.2.1, (zDp z + 1, va_up (zOp z) (zDp z) (zSn z)))
def pz_always (z : pz) : pz := (z.1, (zTn z, zTk z, zFi z, va_up (zAl z) (zTn z - 1) (some (zSn z)), zNm z), z.2.2)
def nm_or (m v : Int32) : Int32 := if v ≤ 0 then m else m ||| (1 : Int32) <<< (v &&& 31)
def pz_push (g : Nat → Int32) (nl : Nat) (nf : Nat → Int32) (z : pz) : pz := (z.1, (zTn z, zTk z, zFi z, zAl z, va_up (zNm z) (zTn z - 1) (nm_or (zNm z (zTn z - 1)) (g 2))), (zSn z + 1, va_up (zSd z) (zSn z) g, va_up (zBh z) (zSn z) (zSn z + 1), va_up (zNl z) (zSn z) nl, va_up (zNf z) (zSn z) nf), z.2.2.2)
/-- the kind of step that word 0 names, 0 if none -/
noncomputable def w_kd (sg : Nat → Nat) (s e : Nat) : Nat := zIf (w_is sg s e 0 3) 1 (zIf (w_is sg s e 0 4) 2 (zIf (w_is sg s e 0 5) 3 (zIf (w_is sg s e 0 6) 4 (zIf (w_is sg s e 0 7) 5 (zIf (w_is sg s e 0 8) 6 (zIf (w_is sg s e 0 9) 7 (zIf (w_is sg s e 0 10) 8 0)))))))
abbrev pf_T : Type := (Nat → Int32) × Nat × (Nat → Int32) × pz
def w_v (sg : Nat → Nat) (s e : Nat) (z : pz) : Nat := zvo (zVk z) (w_key sg s e 1) (zVn z) 0
/-- a step's fields and numbers from the words of its line; what is opened -/
noncomputable def pz_fill (sg : Nat → Nat) (s e n : Nat) (z : pz) : Option pf_T :=
  zIf (w_kd sg s e = 1) (zIf (w_c sg s e = 3 ∧ 0 < w_v sg s e z ∧ w_num sg s e 2 ≠ -1000000) (some (sf_D 1 (nI n) (nI (w_v sg s e z)) 0 (w_num sg s e 2) 0, 0, (fun _ => 0), z)) none)
  (zIf (w_kd sg s e = 2) (zIf (w_c sg s e = 4 ∧ 0 < w_v sg s e z ∧ w_num sg s e 2 ≠ -1000000 ∧ w_num sg s e 2 ≤ w_num sg s e 3 ∧ w_num sg s e 3 ≤ 999999) (some (sf_D 2 (nI n) (nI (w_v sg s e z)) 0 (w_num sg s e 2) (w_num sg s e 3), 0, (fun _ => 0), z)) none)
  (zIf (w_kd sg s e = 3) (zIf (w_c sg s e = 5 ∧ w_op sg s e 2 ≠ 0 ∧ 0 < w_v sg s e z ∧ w_num sg s e 3 ≠ -1000000 ∧ 0 ≤ w_num sg s e 4 ∧ w_num sg s e 4 ≤ 1000) (some (sf_D 3 (nI n) (nI (w_v sg s e z)) (w_op sg s e 2) (w_num sg s e 3) (w_num sg s e 4), 0, (fun _ => 0), z)) none)
  (zIf (w_kd sg s e = 4) (zIf (w_c sg s e = 4 ∧ w_op sg s e 2 ≠ 0 ∧ 0 < w_v sg s e z ∧ w_num sg s e 3 ≠ -1000000) (some (sf_D 4 (nI n) (nI (w_v sg s e z)) (w_op sg s e 2) (w_num sg s e 3) 0, 0, (fun _ => 0), z)) none)
  (zIf (w_kd sg s e = 5) (zIf (w_c sg s e = 3 ∧ 1 ≤ w_num sg s e 1 ∧ w_num sg s e 1 ≤ 8 ∧ (w_is sg s e 2 15 ∨ w_is sg s e 2 16)) (some (sf_D 5 (nI n) 0 0 (w_num sg s e 1) (zIf (w_is sg s e 2 15) 1 0), 0, (fun _ => 0), z)) none)
  (zIf (w_kd sg s e = 6) (zIf (w_c sg s e = 2 ∧ 1 ≤ w_num sg s e 1 ∧ w_num sg s e 1 ≤ 20 ∧ zDp z < 8) (some (sf_D 6 (nI n) 0 0 (w_num sg s e 1) 0, 0, (fun _ => 0), pz_open z)) none)
  (zIf (w_kd sg s e = 7) (zIf (0 < w_v sg s e z ∧ 3 ≤ w_c sg s e ∧ w_c sg s e ≤ 12 ∧ (∀ i, i < w_c sg s e - 2 → w_num sg s e (i + 2) ≠ -1000000) ∧ zDp z < 8) (some (sf_D 7 (nI n) (nI (w_v sg s e z)) 0 0 0, w_c sg s e - 2, (fun i => if i < w_c sg s e - 2 then w_num sg s e (i + 2) else 0), pz_open z)) none)
  (zIf (w_kd sg s e = 8) (zIf (w_c sg s e = 1 ∧ zDp z = 0 ∧ zAl z (zTn z - 1) = none) (some (sf_D 8 (nI n) 0 0 0 0, 0, (fun _ => 0), pz_open (pz_always z))) none)
  none)))))))
/-- a line that has a word -/
noncomputable def pz_line (sg : Nat → Nat) (s e n : Nat) (z : pz) : Option pz :=
  zIf (w_is sg s e 0 0) (zIf (w_c sg s e = 2 ∧ w_key sg s e 1 ≠ 0 ∧ ¬ zTaken z (w_key sg s e 1) ∧ zVn z < 20) (some (pz_name (w_key sg s e 1) z)) none)
  (zIf (w_is sg s e 0 1) (zIf (w_c sg s e = 2 ∧ w_key sg s e 1 ≠ 0 ∧ ¬ zTaken z (w_key sg s e 1) ∧ zDp z = 0 ∧ zTn z < 12) (some (pz_test (w_key sg s e 1) z)) none)
  (zIf (w_is sg s e 0 2) (zIf (w_c sg s e = 1 ∧ 1 ≤ zDp z) (some (pz_end z)) none)
  (zIf (zTn z = 0 ∨ 100 ≤ zSn z - zFi z (zTn z - 1)) none ((pz_fill sg s e n z).map (fun f => pz_push f.1 f.2.1 f.2.2.1 f.2.2.2)))))
/-- what holds of all that is read (bounds) -/
def pz_b (z : pz) : Prop := zVn z ≤ 20 ∧ (∀ i, i < zVn z → 0 < zVk z i ∧ zVk z i < 27 ^ 8) ∧ zTn z ≤ 12 ∧ (∀ i, i < zTn z → 0 < zTk z i ∧ zTk z i < 27 ^ 8) ∧ (zTn z = 0 → zSn z = 0 ∧ zDp z = 0) ∧ (∀ i, i < zTn z → zFi z i ≤ 100 * i) ∧ (∀ i, i + 1 < zTn z → zFi z i ≤ zFi z (i + 1)) ∧ (0 < zTn z → zFi z (zTn z - 1) ≤ zSn z ∧ zSn z ≤ zFi z (zTn z - 1) + 100) ∧ zDp z ≤ 8 ∧ ∀ j, j < zDp z → zOp z j < zSn z
theorem pz_b.sn {z : pz} (h : pz_b z) : zSn z ≤ 1200 := by
  obtain ⟨h1, h2, h3, h4, h5, h6, h7, h8, h9⟩ := h
  rcases Nat.eq_zero_or_pos (zTn z) with q | q
  · have := (h5 q).1; omega
  · have := (h8 q).2; have := h6 (zTn z - 1) (by omega); omega
theorem lN_inj {a b : Nat} (ha : a < 2 ^ 63) (hb : b < 2 ^ 63) : lN a = lN b ↔ a = b := by
  constructor
  · intro h
    have h1 : (lN a).toInt = (a : Int) := lg_ofNat_toInt ha
    have h2 : (lN b).toInt = (b : Int) := lg_ofNat_toInt hb
    rw [h, h2] at h1
    omega
  · intro h; rw [h]
theorem zvo_pl {vk : Nat → Nat} {vl : Nat → Int64} {key : Nat} (hk : key < 27 ^ 8) : ∀ (m i : Nat), (∀ j, i ≤ j → j < i + m → vl j = lN (vk j) ∧ vk j < 27 ^ 8) → pl_vo vl (lN key) m i = zvo vk key m i := by
  intro m
  induction m with
  | zero => intro i h; rfl
  | succ m ih =>
    intro i h
    rw [pl_vo, zvo, ih (i + 1) (fun j h1 h2 => h j (by omega) (by omega)), (h i (by omega) (by omega)).1]
    have := (h i (by omega) (by omega)).2
    by_cases q : vk i = key
    · rw [if_pos q, if_pos (by rw [q])]
    · rw [if_neg q, if_neg (fun z => q ((lN_inj (by omega) (by omega)).mp z))]
theorem zvo_le {vk : Nat → Nat} {key : Nat} : ∀ (m i : Nat), zvo vk key m i ≤ i + m ∧ (0 < zvo vk key m i → i < zvo vk key m i ∧ vk (zvo vk key m i - 1) = key) := by
  intro m
  induction m with
  | zero => intro i; exact ⟨Nat.zero_le _, fun h => absurd h (by rw [zvo]; omega)⟩
  | succ m ih =>
    intro i
    rw [zvo]
    by_cases q : vk i = key
    · rw [if_pos q]; exact ⟨by omega, fun _ => ⟨by omega, by rw [show i + 1 - 1 = i by omega]; exact q⟩⟩
    · rw [if_neg q]
      have := ih (i + 1)
      exact ⟨by omega, fun h => ⟨by have := (this.2 h).1; omega, (this.2 h).2⟩⟩
/-- the Reader's cells while z has been read and the words of s .. e are split -/
def rd_at (X : pm_X) (G : pm_G) (r sg0 wo ba ea oa pl kv tl sl le : Nat) (ta sa sna : Nat → Nat) (bf ef sf of lf : Nat → Int32) (vk : Nat → Int64) (c : Nat) (z : pz) : Prop :=
  G r = some (30, .inr (3, [.ref pl, .ref sg0, .ref wo, va_rf (if zTn z = 0 then none else some (ta (zTn z - 1))), .ref oa, .int (nI (zDp z))])) ∧ wd_at G wo sg0 ba ea c bf ef ∧ G oa = some (34, .inl (0, 8, .inl of)) ∧ (∀ j, j < zDp z → of j = nI (zOp z j)) ∧ G sg0 = some (2, .inl (2, 4000, .inl sf)) ∧ G pl = some (20, .inr (1, pl_V kv (zVn z) tl sl le 0)) ∧
  G kv = some (21, .inl (1, 20, .inr (.inl vk))) ∧ (∀ i, i < zVn z → vk i = lN (zVk z i)) ∧ al_at 22 X G tl (zTn z) ta ∧ ts_at G (zTn z) ta (fun i => (lN (zTk z i), zTD z i)) ∧ al_at 24 X G sl (zSn z) sa ∧ ss_at G (zSn z) sa sna (zSD z) ∧ (∀ i, i < zSn z → G (sna i) = some (201 + 2 * i, .inl (0, zNl z i, .inl (zNf z i)))) ∧ G le = some (26, .inl (0, 12, .inl lf))
/-- the signs as they lie there -/
def sg_ok (sg : Nat → Nat) (sf : Nat → Int32) (e : Nat) : Prop := ∀ i, i < e → sf i = nI (sg i) ∧ sg i < 128
theorem rd_at.fr {X : pm_X} {G G' : pm_G} {r sg0 wo ba ea oa pl kv tl sl le : Nat} {ta sa sna : Nat → Nat} {bf ef sf of lf : Nat → Int32} {vk : Nat → Int64} {c : Nat} {z : pz} {S : Nat → Prop} (h : rd_at X G r sg0 wo ba ea oa pl kv tl sl le ta sa sna bf ef sf of lf vk c z) (hf : pm_fr S G G') (hS : ∀ c, S c → c = 200 + 2 * zSn z ∨ c = 201 + 2 * zSn z) (ht : zTn z ≤ 12) : rd_at X G' r sg0 wo ba ea oa pl kv tl sl le ta sa sna bf ef sf of lf vk c z := by
  obtain ⟨h1, h2, h3, h4, h5, h6, h7, h8, h9, h10, h11, h12, h13, h14⟩ := h
  have hn : ∀ c, c ≠ 200 + 2 * zSn z → c ≠ 201 + 2 * zSn z → ¬ S c := fun c a b q => (hS c q).elim a b
  exact ⟨hf _ _ _ h1 (hn _ (by omega) (by omega)), h2.fr hf (hn _ (by omega) (by omega)) (hn _ (by omega) (by omega)) (hn _ (by omega) (by omega)), hf _ _ _ h3 (hn _ (by omega) (by omega)), h4, hf _ _ _ h5 (hn _ (by omega) (by omega)), hf _ _ _ h6 (hn _ (by omega) (by omega)), hf _ _ _ h7 (hn _ (by omega) (by omega)), h8, h9.fr hf (hn _ (by omega) (by omega)) (hn _ (by omega) (by omega)), h10.fr hf (fun i hi => hn _ (by omega) (by omega)), h11.fr hf (hn _ (by omega) (by omega)) (hn _ (by omega) (by omega)), h12.fr hf (fun i hi => hn _ (by omega) (by omega)), fun i hi => hf _ _ _ (h13 i hi) (hn _ (by omega) (by omega)), hf _ _ _ h14 (hn _ (by omega) (by omega))⟩
