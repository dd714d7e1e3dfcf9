/-! WAITING, by the model second by second, by the class from answer to answer -/
theorem an_fh_sp {kf : Nat → Nat} {vf : Nat → Int32} {v : Nat} {op num : Int32} : ∀ {m i w : Nat}, an_fh kf vf v op num m i = some w → ∃ k, i ≤ k ∧ k < i + m ∧ hs_B op num (vf k) = true ∧ (∀ j, i ≤ j → j < k → hs_B op num (vf j) = false) ∧ w = kf k - v * 100001 := by
  intro m
  induction m with
  | zero => intro i w h; cases h
  | succ m ih =>
    intro i w h
    rw [an_fh] at h
    by_cases q : hs_B op num (vf i) = true
    · rw [if_pos q] at h
      cases h
      exact ⟨i, by omega, by omega, q, fun j j1 j2 => by omega, rfl⟩
    · rw [if_neg q] at h
      obtain ⟨k, k1, k2, k3, k4, k5⟩ := ih h
      refine ⟨k, by omega, by omega, k3, fun j j1 j2 => ?_, k5⟩
      by_cases z : j = i
      · rw [z]; exact Bool.eq_false_iff.mpr q
      · exact k4 j (by omega) j2
theorem an_fh_nn {kf : Nat → Nat} {vf : Nat → Int32} {v : Nat} {op num : Int32} : ∀ {m i : Nat}, an_fh kf vf v op num m i = none → ∀ j, i ≤ j → j < i + m → hs_B op num (vf j) = false := by
  intro m
  induction m with
  | zero => intro i h j j1 j2; omega
  | succ m ih =>
    intro i h j j1 j2
    rw [an_fh] at h
    by_cases q : hs_B op num (vf i) = true
    · rw [if_pos q] at h; cases h
    · rw [if_neg q] at h
      by_cases z : j = i
      · rw [z]; exact Bool.eq_false_iff.mpr q
      · exact ih h j (by omega) (by omega)
section MT
variable {N n : Nat} {kf : Nat → Nat} {vf : Nat → Int32} {av at' : Nat → Nat} {ax : Nat → Int32} {v b T sec : Nat} {op nu sv : Int32}
/-- the value does as it should at time t -/
def mh (n : Nat) (kf : Nat → Nat) (vf : Nat → Int32) (v b : Nat) (op nu sv : Int32) (t : Nat) : Prop := mval n kf vf v b t sv ≠ -1000000 ∧ hs_B op nu (mval n kf vf v b t sv) = true
theorem mw_same {t : Nat} (h : an_cu kf (an_key v t) n = an_cu kf (an_key v T) n) : mval n kf vf v b t sv = mval n kf vf v b T sv := by
  unfold mval an_lw
  rw [h]
theorem an_key_b {t : Nat} : an_key v t ≤ v * 100001 + t ∧ an_key v t ≤ v * 100001 + 100000 ∧ (t ≤ 100000 → an_key v t = v * 100001 + t) ∧ (100000 ≤ t → an_key v t = v * 100001 + 100000) := by
  unfold an_key
  refine ⟨by split <;> omega, by split <;> omega, fun h => by split <;> omega, fun h => by split <;> omega⟩
theorem an_cu_mono (hs : ∀ i j, i < j → j < n → kf i < kf j) {K K' : Nat} (h : K ≤ K') : an_cu kf K n ≤ an_cu kf K' n := by
  apply Nat.le_of_not_lt
  intro q
  have h1 := an_cu_lt hs (K := K) (i := an_cu kf K' n) q
  have h2 := an_cu_ge hs (K := K') (i := an_cu kf K' n) (Nat.le_refl _) (by have := an_cu_le kf K n; omega)
  omega
theorem mw_new {t : Nat} (hok : ma_ok N n kf vf av at' ax) (hb : b ≤ T + 1) (h : an_cu kf (an_key v T) n < an_cu kf (an_key v t) n) : mval n kf vf v b t sv = vf (an_cu kf (an_key v t) n - 1) ∧ vf (an_cu kf (an_key v t) n - 1) ≠ -1000000 := by
  obtain ⟨h1, h2, h3, h4⟩ := hok
  have hc := an_cu_le kf (an_key v t) n
  have g1 := an_cu_ge h3 (K := an_key v T) (i := an_cu kf (an_key v t) n - 1) (by omega) (by omega)
  have g2 := an_cu_lt h3 (K := an_key v t) (i := an_cu kf (an_key v t) n - 1) (by omega)
  obtain ⟨k1, k2, k3, k4⟩ := an_key_b (v := v) (t := T)
  obtain ⟨m1, m2, m3, m4⟩ := an_key_b (v := v) (t := t)
  have hT : T < 100000 := Nat.lt_of_not_le (fun q => by have := k4 q; omega)
  have := k3 (by omega)
  obtain ⟨a', a1, a2, a3, a4⟩ := (h4 (kf (an_cu kf (an_key v t) n - 1)) (vf (an_cu kf (an_key v t) n - 1))).mp ⟨_, by omega, rfl, rfl⟩
  have hv : vf (an_cu kf (an_key v t) n - 1) ≠ -1000000 := by rw [← a3]; exact (h2 a' a1).2.2.2
  have e1 : an_lw n kf vf v b t = vf (an_cu kf (an_key v t) n - 1) := by
    unfold an_lw
    rw [if_pos ⟨by omega, by omega, by omega⟩]
  unfold mval
  rw [if_neg (by rw [e1]; exact hv), e1]
  exact ⟨rfl, hv⟩
theorem wt_some {w : Nat} (hok : ma_ok N n kf vf av at' ax) (hb : b ≤ T + 1) (hn : ¬ mh n kf vf v b op nu sv T) (hw : an_wt n kf vf v op nu T (T + sec) = some w) : T < w ∧ w ≤ T + sec ∧ mh n kf vf v b op nu sv w ∧ ∀ t, T ≤ t → t < w → ¬ mh n kf vf v b op nu sv t := by
  have h3 := hok.2.2.1
  unfold an_wt at hw
  obtain ⟨k, w1, w2, w3, w4, w5⟩ := an_fh_sp hw
  have hc := an_cu_le kf (an_key v (T + sec)) n
  have g1 := an_cu_ge h3 (K := an_key v T) (i := k) w1 (by omega)
  have g2 := an_cu_lt h3 (K := an_key v (T + sec)) (i := k) (by omega)
  obtain ⟨k1, k2, k3, k4⟩ := an_key_b (v := v) (t := T)
  obtain ⟨m1, m2, m3, m4⟩ := an_key_b (v := v) (t := T + sec)
  have hT : T < 100000 := Nat.lt_of_not_le (fun q => by have := k4 q; omega)
  have e0 := k3 (by omega)
  have ew : an_key v w = kf k := by
    have := (an_key_b (v := v) (t := w)).2.2.1 (by omega)
    omega
  have ec : an_cu kf (an_key v w) n = k + 1 := by
    rw [ew]
    refine an_cu_eq (by omega) (fun i hi => ?_) (fun i i1 i2 => h3 k i (by omega) i2)
    by_cases q : i = k
    · rw [q]; exact Nat.le_refl _
    · exact Nat.le_of_lt (h3 i k (by omega) (by omega))
  refine ⟨by omega, by omega, ?_, fun t t1 t2 => ?_⟩
  · obtain ⟨y1, y2⟩ := mw_new (sv := sv) hok hb (t := w) (v := v) (by omega)
    unfold mh
    rw [y1]
    rw [ec, show k + 1 - 1 = k by omega] at y2 ⊢
    exact ⟨y2, w3⟩
  · have mt : an_key v t ≤ an_key v w := by
      have := (an_key_b (v := v) (t := t)).1
      have := (an_key_b (v := v) (t := w)).2.2.1 (by omega)
      omega
    have mt2 : an_key v T ≤ an_key v t := by
      have := (an_key_b (v := v) (t := t)).2.2.1 (by omega)
      omega
    have mt3 : an_key v t < kf k := by
      have := (an_key_b (v := v) (t := t)).2.2.1 (by omega)
      omega
    have l1 := an_cu_mono h3 mt2
    have l2 : an_cu kf (an_key v t) n ≤ k := by
      apply Nat.le_of_not_lt
      intro q
      have := an_cu_lt h3 (K := an_key v t) (i := k) q
      omega
    rcases Nat.eq_or_lt_of_le l1 with q | q
    · unfold mh
      rw [mw_same q.symm]
      exact hn
    · obtain ⟨y1, y2⟩ := mw_new (sv := sv) hok hb (t := t) (v := v) q
      unfold mh
      rw [y1, w4 _ (by omega) (by omega)]
      exact fun z => by cases z.2
theorem wt_none (hok : ma_ok N n kf vf av at' ax) (hb : b ≤ T + 1) (hn : ¬ mh n kf vf v b op nu sv T) (hw : an_wt n kf vf v op nu T (T + sec) = none) : ∀ t, T ≤ t → t ≤ T + sec → ¬ mh n kf vf v b op nu sv t := by
  have h3 := hok.2.2.1
  unfold an_wt at hw
  have h4 := an_fh_nn hw
  intro t t1 t2
  have key : ∀ {x y : Nat}, x ≤ y → an_key v x ≤ an_key v y := by
    intro x y hxy
    unfold an_key
    split <;> split <;> omega
  have l1 := an_cu_mono h3 (key t1)
  have l2 := an_cu_mono h3 (key t2)
  rcases Nat.eq_or_lt_of_le l1 with q | q
  · unfold mh
    rw [mw_same q.symm]
    exact hn
  · obtain ⟨y1, y2⟩ := mw_new (sv := sv) hok hb (t := t) (v := v) q
    unfold mh
    rw [y1, h4 _ (by omega) (by omega)]
    exact fun z => by cases z.2
end MT
