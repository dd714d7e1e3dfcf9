/-! A RUN'S STATES: what holds of each -/
section RQ
variable {q : rs_T} {n : Nat} {kf : Nat → Nat} {vf : Nat → Int32}
theorem rq_row {li x : Int32} (h : rq_ok q) (hN : qN q < 2000) : rq_ok (rs_row li x q) := by
  obtain ⟨h1, h2, h3, h4, h5, h6, h7⟩ := h
  exact ⟨by show qN q + 1 ≤ 2000; omega, by show qT q ≤ 1001 * (qN q + 1); omega, h3, h4, h5, h6, h7⟩
theorem rq_rt {li x : Int32} (h : rq_ok q) (hN : qN q < 2000) : rq_ok (rs_tick (rs_row li x q)) := by
  obtain ⟨h1, h2, h3, h4, h5, h6, h7⟩ := h
  exact ⟨by show qN q + 1 ≤ 2000; omega, by show qT q + 1 ≤ 1001 * (qN q + 1); omega, fun v hv => by have := h3 v hv; show qB q v ≤ qT q + 1; omega, h4, h5, h6, h7⟩
theorem rq_srt {li x : Int32} {v : Nat} (h : rq_ok q) (hN : qN q < 2000) (hx : x ≠ -1000000) : rq_ok (rs_tick (rs_row li x (rs_set v x q))) := by
  obtain ⟨h1, h2, h3, h4, h5, h6, h7⟩ := h
  refine ⟨by show qN q + 1 ≤ 2000; omega, by show qT q + 1 ≤ 1001 * (qN q + 1); omega, fun u hu => ?_, fun u hu hb => ?_, h5, h6, h7⟩
  · show va_up (qB q) v (qT q + 1) u ≤ qT q + 1
    by_cases y : u = v
    · rw [y, va_up_s]; exact Nat.le_refl _
    · rw [va_up_n y]; have := h3 u hu; omega
  · show upd (qS q) v x u ≠ -1000000
    by_cases y : u = v
    · rw [y, pk_us]; exact hx
    · rw [pk_un y]
      have e1 : va_up (qB q) v (qT q + 1) u = qB q u := va_up_n y
      exact h4 u hu (by rw [← e1]; exact hb)
theorem rq_time {li x : Int32} {T : Nat} (h : rq_ok q) (hN : qN q < 2000) (hT : qT q ≤ T) (hT2 : T ≤ qT q + 1000) : rq_ok (rs_row li x (rs_at_time T q)) ∧ rq_ok (rs_tick (rs_row li x (rs_at_time T q))) := by
  obtain ⟨h1, h2, h3, h4, h5, h6, h7⟩ := h
  exact ⟨⟨by show qN q + 1 ≤ 2000; omega, by show T ≤ 1001 * (qN q + 1); omega, fun v hv => by have := h3 v hv; show qB q v ≤ T; omega, h4, h5, h6, h7⟩, ⟨by show qN q + 1 ≤ 2000; omega, by show T + 1 ≤ 1001 * (qN q + 1); omega, fun v hv => by have := h3 v hv; show qB q v ≤ T + 1; omega, h4, h5, h6, h7⟩⟩
theorem rq_leave {ve li : Int32} {be : Nat} (h : rq_ok q) (hb : be ≤ 2000) (hv : ve = 1 ∨ ve = 2) : rq_ok (rs_leave ve li be q) := by
  obtain ⟨h1, h2, h3, h4, h5, h6, h7⟩ := id h
  unfold rs_leave
  by_cases y : (qW q).1 = 0
  · rw [if_pos y]
    have hv0 : ¬ ve = 0 := by
      rcases hv with v | v <;> (rw [v]; decide)
    refine ⟨h1, h2, h3, h4, h5, ?_, Or.inr hv, fun (w : ve = 0) => absurd w hv0⟩
    show (if qL q = -1 then nI be else qL q) = -1 ∨ ∃ k, k ≤ 2000 ∧ (if qL q = -1 then nI be else qL q) = nI k
    by_cases w : qL q = -1
    · rw [if_pos w]; exact Or.inr ⟨be, hb, rfl⟩
    · rw [if_neg w]; exact h6
  · rw [if_neg y]; exact h
theorem rq_drawn (h : rq_ok q) : rq_ok (rs_drawn q) := by
  obtain ⟨h1, h2, h3, h4, ⟨d, d1, d2⟩, h6, h7⟩ := h
  obtain ⟨d', e1, e2, -⟩ := dr_is d1
  exact ⟨h1, h2, h3, h4, ⟨d', e1, by show (qD q * 25173 + 13849) &&& 4294967295 = lN d'; rw [d2]; exact e2⟩, h6, h7⟩
/-- the number drawn in state q -/
theorem rq_dv {lo hi : Int32} (h : rq_ok q) (h1 : -999999 ≤ lo) (h2 : lo ≤ hi) (h3 : hi ≤ 999999) : rs_dv lo hi (rs_dr q) ≠ -1000000 := by
  obtain ⟨-, -, -, -, ⟨d, d1, d2⟩, -, -⟩ := h
  obtain ⟨d', e1, e2, -⟩ := dr_is d1
  obtain ⟨m, -, -, -, -, m5⟩ := dv_is h1 h2 h3 e1
  have e3 : rs_dr q = lN d' := by show (qD q * 25173 + 13849) &&& 4294967295 = lN d'; rw [d2]; exact e2
  rw [e3]
  exact m5
theorem an_wt_gt (hs : ∀ i j, i < j → j < n → kf i < kf j) {v T u w : Nat} {op num : Int32} (h : an_wt n kf vf v op num T u = some w) : T ≤ w := by
  unfold an_wt at h
  obtain ⟨k, k1, k2, k3⟩ := an_fh_in h
  have hc := an_cu_le kf (an_key v u) n
  have g1 := an_cu_ge hs (K := an_key v T) (i := k) k1 (by omega)
  have g2 := an_cu_lt hs (K := an_key v u) (i := k) (by omega)
  obtain ⟨b1, b2, b3, b4⟩ := an_key_b (v := v) (t := T)
  obtain ⟨c1, c2, c3, c4⟩ := an_key_b (v := v) (t := u)
  have : T < 100000 := Nat.lt_of_not_le (fun y => by have := b4 y; omega)
  have := b3 (by omega)
  omega
theorem rq_do {i nl : Nat} {g nf : Nat → Int32} (hs : ∀ i j, i < j → j < n → kf i < kf j) (h : rq_ok q) (hk : sk_ok g nl nf) (hN : qN q < 2000) : rq_ok (rs_do n kf vf i g q).1 := by
  obtain ⟨k1, k2, k3, k4, k5, k6, k7, k8, k9⟩ := hk
  have hb : rq_ok (rs_begun i q) := h
  unfold rs_do
  by_cases y1 : g 0 = 1
  · rw [if_pos y1]; exact rq_srt hb hN (k4 y1)
  · rw [if_neg y1]
    by_cases y2 : g 0 = 2
    · rw [if_pos y2]
      have e := k5 y2
      exact rq_srt (rq_drawn hb) hN (rq_dv hb e.1 e.2.1 e.2.2)
    · rw [if_neg y2]
      by_cases y3 : g 0 = 3
      · rw [if_pos y3]
        obtain ⟨c, c1, c2⟩ := k1.2 y3
        have e1 : (g 5).toNatClampNeg = c := by rw [c2, nI_clamp (by omega)]
        unfold rs_wait
        rw [e1]
        split
        · cases hw : an_wt n kf vf (g 2).toNatClampNeg (g 3) (g 4) (qT q) (qT q + c) with
          | none => exact rq_leave (rq_time hb hN (by show qT q ≤ qT q + c; omega) (by show qT q + c ≤ qT q + 1000; omega)).1 (by show qN q ≤ 2000; omega) (Or.inl rfl)
          | some w => exact (rq_time hb hN (an_wt_gt hs hw) (by have := an_wt_le hs hw; show w ≤ qT q + 1000; omega)).2
        · exact rq_rt hb hN
      · rw [if_neg y3]
        by_cases y4 : g 0 = 4
        · rw [if_pos y4]
          unfold rs_check
          split
          · refine rq_leave (rq_row hb hN) (by show qN q ≤ 2000; omega) ?_
            split
            · exact Or.inr rfl
            · exact Or.inl rfl
          · exact rq_rt hb hN
        · rw [if_neg y4]
          by_cases y5 : g 0 = 5
          · rw [if_pos y5]; exact rq_rt hb hN
          · rw [if_neg y5]; exact rq_rt hb hN
theorem rq_case {g : Nat → Int32} {x : Int32} (h : rq_ok q) (hN : qN q < 2000) (hx : x ≠ -1000000) : rq_ok (rs_case g x q) := rq_srt h hN hx
end RQ
