/-! THE WALK OVER THE STEPS (shared by both sides): open blocks with their turns, the place, the state, 0 or how it was left (1 left, 2 spent) -/
abbrev gs_T : Type := List (Nat × Nat) × Nat × rs_T × Nat
def rs_spent (s : rs_T) : rs_T := rs_leave 2 0 (qN s) s
def rs_case (g : Nat → Int32) (x : Int32) (s : rs_T) : rs_T := rs_tick (rs_row (g 1) x (rs_set (g 2).toNatClampNeg x s))
section GS
variable (en n : Nat) (kf : Nat → Nat) (vf : Nat → Int32) (sd : Nat → Nat → Int32) (nl : Nat → Nat) (nf : Nat → Nat → Int32) (bh : Nat → Nat)
def gs_times (b : Nat) : Nat := if sd b 0 = 7 then nl b else (sd b 4).toNatClampNeg
/-- the step at place s -/
def gs_at (K : List (Nat × Nat)) (s : Nat) (q : rs_T) : gs_T :=
  if qN q = 2000 then (K, s, rs_spent q, 2) else if (rs_do n kf vf s (sd s) q).2 = false then (K, s, (rs_do n kf vf s (sd s) q).1, 1)
  else if sd s 0 = 6 then ((s, 0) :: K, s + 1, (rs_do n kf vf s (sd s) q).1, 0)
  else if sd s 0 = 7 then (if qN (rs_do n kf vf s (sd s) q).1 = 2000 then ((s, 0) :: K, s + 1, rs_spent (rs_do n kf vf s (sd s) q).1, 2) else ((s, 0) :: K, s + 1, rs_case (sd s) (nf s 0) (rs_do n kf vf s (sd s) q).1, 0))
  else (K, bh s, (rs_do n kf vf s (sd s) q).1, 0)
/-- a block's end -/
def gs_end (b tu : Nat) (K : List (Nat × Nat)) (s : Nat) (q : rs_T) : gs_T :=
  if tu + 1 = gs_times sd nl b then (K, s, q, 0) else if sd b 0 = 7 then (if qN q = 2000 then ((b, tu + 1) :: K, b + 1, rs_spent q, 2) else ((b, tu + 1) :: K, b + 1, rs_case (sd b) (nf b (tu + 1)) q, 0)) else ((b, tu + 1) :: K, b + 1, q, 0)
/-- en: where it ends if no block is open -/
def gs (c : gs_T) : gs_T := if c.2.2.2 = 0 ∧ ¬ (c.1 = [] ∧ en ≤ c.2.1) then (match c.1 with
  | [] => gs_at n kf vf sd nf bh [] c.2.1 c.2.2.1
  | (b, tu) :: K => if c.2.1 = bh b then gs_end sd nl nf b tu K c.2.1 c.2.2.1 else gs_at n kf vf sd nf bh ((b, tu) :: K) c.2.1 c.2.2.1) else c
def gs_it : Nat → gs_T → gs_T
  | 0, c => c
  | m + 1, c => gs_it m (gs en n kf vf sd nl nf bh c)
def gr (c c' : gs_T) : Prop := ∃ m, gs_it en n kf vf sd nl nf bh m c = c'
end GS
section GR
variable {en n : Nat} {kf : Nat → Nat} {vf : Nat → Int32} {sd : Nat → Nat → Int32} {nl : Nat → Nat} {nf : Nat → Nat → Int32} {bh : Nat → Nat}
theorem gs_it_add : ∀ (a b : Nat) (c : gs_T), gs_it en n kf vf sd nl nf bh (a + b) c = gs_it en n kf vf sd nl nf bh b (gs_it en n kf vf sd nl nf bh a c) := by
  intro a
  induction a with
  | zero => intro b c; rw [Nat.zero_add]; rfl
  | succ a ih => intro b c; rw [show a + 1 + b = (a + b) + 1 by omega]; exact ih b _
theorem gr.rf {c : gs_T} : gr en n kf vf sd nl nf bh c c := ⟨0, rfl⟩
theorem gr.tr {c1 c2 c3 : gs_T} (h1 : gr en n kf vf sd nl nf bh c1 c2) (h2 : gr en n kf vf sd nl nf bh c2 c3) : gr en n kf vf sd nl nf bh c1 c3 := by
  obtain ⟨a, rfl⟩ := h1
  obtain ⟨b, rfl⟩ := h2
  exact ⟨a + b, gs_it_add a b c1⟩
theorem gr.one {c c' : gs_T} (h : gs en n kf vf sd nl nf bh c = c') : gr en n kf vf sd nl nf bh c c' := ⟨1, h⟩
/-- a place where no block of the stack ends -/
theorem gs_mid {K : List (Nat × Nat)} {s : Nat} {q : rs_T} (h : ∀ b tu K', K = (b, tu) :: K' → s ≠ bh b) (h2 : K = [] → s < en) : gs en n kf vf sd nl nf bh (K, s, q, 0) = gs_at n kf vf sd nf bh K s q := by
  unfold gs
  rw [if_pos ⟨rfl, fun z => absurd (h2 z.1) (Nat.not_lt.mpr z.2)⟩]
  cases K with
  | nil => rfl
  | cons x K' =>
    obtain ⟨b, tu⟩ := x
    show (if s = bh b then _ else _) = _
    rw [if_neg (h b tu K' rfl)]
theorem gs_fin {b tu : Nat} {K : List (Nat × Nat)} {q : rs_T} : gs en n kf vf sd nl nf bh ((b, tu) :: K, bh b, q, 0) = gs_end sd nl nf b tu K (bh b) q := by
  unfold gs
  rw [if_pos ⟨rfl, fun z => by cases z.1⟩]
  show (if bh b = bh b then _ else _) = _
  rw [if_pos rfl]
/-- where a walk stands still -/
def gs_done (en : Nat) (c : gs_T) : Prop := ¬ (c.2.2.2 = 0 ∧ ¬ (c.1 = [] ∧ en ≤ c.2.1))
theorem gs_still {c : gs_T} (h : gs_done en c) : ∀ m, gs_it en n kf vf sd nl nf bh m c = c := by
  intro m
  induction m with
  | zero => rfl
  | succ m ih =>
    show gs_it en n kf vf sd nl nf bh m (gs en n kf vf sd nl nf bh c) = c
    rw [show gs en n kf vf sd nl nf bh c = c by unfold gs; rw [if_neg h]]
    exact ih
/-- two walks that stand still, from one place, stand at one place -/
theorem gr_one {c c1 c2 : gs_T} (h1 : gr en n kf vf sd nl nf bh c c1) (h2 : gr en n kf vf sd nl nf bh c c2) (d1 : gs_done en c1) (d2 : gs_done en c2) : c1 = c2 := by
  obtain ⟨a, rfl⟩ := h1
  obtain ⟨b, rfl⟩ := h2
  rcases Nat.le_total a b with q | q
  · have e := gs_it_add (en := en) (n := n) (kf := kf) (vf := vf) (sd := sd) (nl := nl) (nf := nf) (bh := bh) a (b - a) c
    rw [show a + (b - a) = b by omega, gs_still d1] at e
    exact e.symm
  · have e := gs_it_add (en := en) (n := n) (kf := kf) (vf := vf) (sd := sd) (nl := nl) (nf := nf) (bh := bh) b (a - b) c
    rw [show b + (a - b) = a by omega, gs_still d2] at e
    exact e
theorem an_cu_lt (hs : ∀ i j, i < j → j < n → kf i < kf j) {K : Nat} : ∀ {i : Nat}, i < an_cu kf K n → kf i ≤ K := by
  induction n with
  | zero => intro i h; rw [an_cu] at h; omega
  | succ n ih =>
    intro i h
    rw [an_cu] at h
    by_cases q : kf n ≤ K
    · rw [if_pos q] at h
      have hle := an_cu_le kf K n
      rcases Nat.lt_or_ge i n with z | z
      · have := hs i n z (by omega)
        omega
      · rw [show i = n by omega]
        exact q
    · rw [if_neg q] at h
      exact ih (fun a b h1 h2 => hs a b h1 (by omega)) h
theorem an_fh_in {v : Nat} {op num : Int32} : ∀ {m i w : Nat}, an_fh kf vf v op num m i = some w → ∃ k, i ≤ k ∧ k < i + m ∧ w = kf k - v * 100001 := by
  intro m
  induction m with
  | zero => intro i w h; cases h
  | succ m ih =>
    intro i w h
    rw [an_fh] at h
    by_cases q : hs_B op num (vf i) = true
    · rw [if_pos q] at h
      cases h
      exact ⟨i, by omega, by omega, rfl⟩
    · rw [if_neg q] at h
      obtain ⟨k, k1, k2, k3⟩ := ih h
      exact ⟨k, by omega, by omega, k3⟩
theorem an_wt_le (hs : ∀ i j, i < j → j < n → kf i < kf j) {v tn u w : Nat} {op num : Int32} (h : an_wt n kf vf v op num tn u = some w) : w ≤ u := by
  unfold an_wt at h
  obtain ⟨k, k1, k2, k3⟩ := an_fh_in h
  have k4 := an_cu_lt hs (K := an_key v u) (i := k) (by omega)
  unfold an_key at k4
  split at k4 <;> omega
/-- the time stays below 1001 for each row -/
theorem rs_do_J (hs : ∀ i j, i < j → j < n → kf i < kf j) {i : Nat} {g : Nat → Int32} {s : rs_T} (hw : sw_ok g) (hJ : qT s ≤ 1001 * qN s) : qT (rs_do n kf vf i g s).1 ≤ 1001 * qN (rs_do n kf vf i g s).1 ∧ (qN (rs_do n kf vf i g s).1 = qN s + 1) := by
  unfold rs_do
  split
  · exact ⟨show qT s + 1 ≤ 1001 * (qN s + 1) by omega, rfl⟩
  split
  · exact ⟨show qT s + 1 ≤ 1001 * (qN s + 1) by omega, rfl⟩
  split
  · rename_i k3
    obtain ⟨c, hc, ec⟩ := hw.2 k3
    rw [ec, nI_clamp (by omega)]
    unfold rs_wait
    split
    · split
      · unfold rs_leave
        split
        · exact ⟨show qT s + c ≤ 1001 * (qN s + 1) by omega, rfl⟩
        · exact ⟨show qT s + c ≤ 1001 * (qN s + 1) by omega, rfl⟩
      · rename_i w hw2
        have := an_wt_le hs hw2
        exact ⟨show w + 1 ≤ 1001 * (qN s + 1) by omega, rfl⟩
    · exact ⟨show qT s + 1 ≤ 1001 * (qN s + 1) by omega, rfl⟩
  split
  · unfold rs_check
    split
    · unfold rs_leave
      split
      · exact ⟨show qT s ≤ 1001 * (qN s + 1) by omega, rfl⟩
      · exact ⟨show qT s ≤ 1001 * (qN s + 1) by omega, rfl⟩
    · exact ⟨show qT s + 1 ≤ 1001 * (qN s + 1) by omega, rfl⟩
  split
  · exact ⟨show qT s + 1 ≤ 1001 * (qN s + 1) by omega, rfl⟩
  · exact ⟨show qT s + 1 ≤ 1001 * (qN s + 1) by omega, rfl⟩
theorem rs_do_G {i : Nat} {g : Nat → Int32} {s : rs_T} : qG (rs_do n kf vf i g s).1 = upd (qG s) i 1 := by
  unfold rs_do
  split
  · rfl
  split
  · rfl
  split
  · unfold rs_wait
    split
    · split
      · unfold rs_leave
        split <;> rfl
      · rfl
    · rfl
  split
  · unfold rs_check
    split
    · unfold rs_leave
      split <;> rfl
    · rfl
  split <;> rfl
theorem rs_leave_G {ve li : Int32} {be : Nat} {s : rs_T} : qG (rs_leave ve li be s) = qG s := by
  unfold rs_leave
  split <;> rfl
end GR
