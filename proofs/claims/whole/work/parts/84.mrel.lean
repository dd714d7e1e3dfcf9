/-! A RUN IN THE MODEL: how its cells stand to the state of a run -/
/-- run r (from 0), test t (from 1), state q -/
def mr_ok (z : pz) (r t : Nat) (q : rs_T) (I : Nat → Int32) (J : Nat → Int64) (M : Nat → Nat → Int32) (W : Nat → Nat → Int64) : Prop :=
  I 44 = nI (r + 1) ∧ (qN q < 2000 → J 53 = qD q) ∧ J 52 = lN (qT q) ∧ (∀ f, 1 ≤ f → f < 9 → M 56 f = fb (qF q) f) ∧ (∀ v, v ≤ 20 → W 58 v = (bhI (qB q v)).toInt64) ∧ (∀ v, v ≤ 20 → qB q v ≠ 0 → W 57 v = (qS q v).toInt64) ∧ M 45 r = nI (qN q) ∧ I 51 = qL q ∧ (∀ k, k < qN q → M 46 (2000 * r + k) = (qR q).1 k ∧ W 47 (2000 * r + k) = ((qR q).2.1 k).toInt64 ∧ W 48 (2000 * r + k) = ((qR q).2.2 k).toInt64) ∧ M 20 t = (qW q).1 ∧ M 21 t = (qW q).2.1 ∧ ((qW q).1 ≠ 0 → W 22 t = ((qW q).2.2).toInt64) ∧ ∀ i, i < zSn z → M 33 i = qG q i
/-- what holds of every state of a run -/
def rq_ok (q : rs_T) : Prop := qN q ≤ 2000 ∧ qT q ≤ 1001 * qN q ∧ (∀ v, v ≤ 20 → qB q v ≤ qT q) ∧ (∀ v, v ≤ 20 → qB q v ≠ 0 → qS q v ≠ -1000000) ∧ (∃ d, d < 2 ^ 32 ∧ qD q = lN d) ∧ (qL q = -1 ∨ ∃ k, k ≤ 2000 ∧ qL q = nI k) ∧ (((qW q).1 = 0 ∨ (qW q).1 = 1 ∨ (qW q).1 = 2) ∧ ((qW q).1 = 0 → (qW q).2.1 = 0))
/-- what stays while test t of run r is done -/
def mg_fr (r t : Nat) (I I' : Nat → Int32) (J J' : Nat → Int64) (M M' : Nat → Nat → Int32) (W W' : Nat → Nat → Int64) : Prop :=
  (∀ i, i ≠ 51 → i ≠ 54 → i ≠ 55 → I' i = I i) ∧ (∀ i, i ≠ 52 → i ≠ 53 → J' i = J i) ∧ (∀ k, k ≠ 20 → k ≠ 21 → k ≠ 33 → k ≠ 37 → k ≠ 45 → k ≠ 46 → k ≠ 56 → k ≠ 59 → M' k = M k) ∧ (∀ j, j ≠ t → M' 20 j = M 20 j ∧ M' 21 j = M 21 j) ∧ (∀ j, j ≠ r → M' 45 j = M 45 j) ∧ (∀ j, j < 2000 * r → M' 46 j = M 46 j) ∧ (∀ k, k ≠ 22 → k ≠ 47 → k ≠ 48 → k ≠ 57 → k ≠ 58 → W' k = W k) ∧ (∀ j, j ≠ t → W' 22 j = W 22 j) ∧ ∀ j, j < 2000 * r → W' 47 j = W 47 j ∧ W' 48 j = W 48 j
section MG
variable {r t : Nat} {I I' I2 : Nat → Int32} {J J' J2 : Nat → Int64} {M M' M2 : Nat → Nat → Int32} {W W' W2 : Nat → Nat → Int64} {q : rs_T} {z : pz}
theorem mg_fr.rf : mg_fr r t I I J J M M W W := ⟨fun _ _ _ _ => rfl, fun _ _ _ => rfl, fun _ _ _ _ _ _ _ _ _ => rfl, fun _ _ => ⟨rfl, rfl⟩, fun _ _ => rfl, fun _ _ => rfl, fun _ _ _ _ _ _ => rfl, fun _ _ => rfl, fun _ _ => ⟨rfl, rfl⟩⟩
theorem mg_fr.tr (h : mg_fr r t I I' J J' M M' W W') (g : mg_fr r t I' I2 J' J2 M' M2 W' W2) : mg_fr r t I I2 J J2 M M2 W W2 := by
  obtain ⟨h1, h2, h3, h4, h5, h6, h7, h8, h9⟩ := h
  obtain ⟨g1, g2, g3, g4, g5, g6, g7, g8, g9⟩ := g
  exact ⟨fun i a b c => (g1 i a b c).trans (h1 i a b c), fun i a b => (g2 i a b).trans (h2 i a b), fun k a b c d e f g i => (g3 k a b c d e f g i).trans (h3 k a b c d e f g i), fun j hj => ⟨(g4 j hj).1.trans (h4 j hj).1, (g4 j hj).2.trans (h4 j hj).2⟩, fun j hj => (g5 j hj).trans (h5 j hj), fun j hj => (g6 j hj).trans (h6 j hj), fun k a b c d e => (g7 k a b c d e).trans (h7 k a b c d e), fun j hj => (g8 j hj).trans (h8 j hj), fun j hj => ⟨(g9 j hj).1.trans (h9 j hj).1, (g9 j hj).2.trans (h9 j hj).2⟩⟩
theorem mg_fr.i {k : Nat} {x : Int32} (h : mg_fr r t I I' J J' M M' W W') (hk : k = 51 ∨ k = 54 ∨ k = 55) : mg_fr r t I (va_up I' k x) J J' M M' W W' := ⟨fun i a b c => by rw [va_up_n (by omega)]; exact h.1 i a b c, h.2⟩
theorem mg_fr.j {k : Nat} {x : Int64} (h : mg_fr r t I I' J J' M M' W W') (hk : k = 52 ∨ k = 53) : mg_fr r t I I' J (va_up J' k x) M M' W W' := ⟨h.1, fun i a b => by rw [va_up_n (by omega)]; exact h.2.1 i a b, h.2.2⟩
theorem mg_fr.m {k : Nat} {x : Nat → Int32} (h : mg_fr r t I I' J J' M M' W W') (hk : k = 33 ∨ k = 37 ∨ k = 56 ∨ k = 59) : mg_fr r t I I' J J' M (va_up M' k x) W W' := by
  obtain ⟨h1, h2, h3, h4, h5, h6, h7⟩ := h
  refine ⟨h1, h2, fun i a b c d e f g j => by rw [va_up_n (by omega)]; exact h3 i a b c d e f g j, fun j hj => ?_, fun j hj => ?_, fun j hj => ?_, h7⟩
  · rw [va_up_n (by omega), va_up_n (by omega)]; exact h4 j hj
  · rw [va_up_n (by omega)]; exact h5 j hj
  · rw [va_up_n (by omega)]; exact h6 j hj
theorem mg_fr.row {n : Nat} {li : Int32} {x : Int64} {J3 : Nat → Int64} (h : mg_fr r t I I' J J' M M' W W') : mg_fr r t I I' J J' M (mw_M M' r n li) W (mw_W W' J3 r n x) := by
  obtain ⟨h1, h2, h3, h4, h5, h6, h7, h8, h9⟩ := h
  unfold mw_M mw_W
  refine ⟨h1, h2, fun i a b c d e f g j => by rw [va_up_n (by omega), va_up_n (by omega)]; exact h3 i a b c d e f g j, h4, fun j hj => ?_, fun j hj => ?_, fun i a b c d e => by rw [va_up_n (by omega), va_up_n (by omega)]; exact h7 i a b c d e, h8, fun j hj => ⟨?_, ?_⟩⟩
  · rw [va_up_s, pk_un hj]; exact h5 j hj
  · rw [va_up_n (by omega), va_up_s, pk_un (by omega)]; exact h6 j hj
  · rw [va_up_n (by omega), va_up_s, pk_uLn (by omega)]; exact (h9 j hj).1
  · rw [va_up_s, pk_uLn (by omega)]; exact (h9 j hj).2
theorem mg_fr.set {v : Nat} {x : Int64} {J3 : Nat → Int64} (h : mg_fr r t I I' J J' M M' W W') : mg_fr r t I I' J J' M M' W (mw_S W' J3 v x) := by
  obtain ⟨h1, h2, h3, h4, h5, h6, h7, h8, h9⟩ := h
  unfold mw_S
  refine ⟨h1, h2, h3, h4, h5, h6, fun i a b c d e => by rw [va_up_n (by omega), va_up_n (by omega)]; exact h7 i a b c d e, fun j hj => ?_, fun j hj => ?_⟩
  · rw [va_up_n (by omega), va_up_n (by omega)]; exact h8 j hj
  · rw [va_up_n (by omega), va_up_n (by omega), va_up_n (by omega), va_up_n (by omega)]; exact h9 j hj
theorem mg_fr.lv {ve li : Int32} {x : Int64} (h : mg_fr r t I I' J J' M M' W W') : mg_fr r t I I' J J' M (va_up (va_up M' 20 (upd (M' 20) t ve)) 21 (upd (M' 21) t li)) W (va_up W' 22 (vp_updL (W' 22) t x)) := by
  obtain ⟨h1, h2, h3, h4, h5, h6, h7, h8, h9⟩ := h
  refine ⟨h1, h2, fun i a b c d e f g j => by rw [va_up_n (by omega), va_up_n (by omega)]; exact h3 i a b c d e f g j, fun j hj => ⟨?_, ?_⟩, h5, h6, fun i a b c d e => by rw [va_up_n (by omega)]; exact h7 i a b c d e, fun j hj => ?_, h9⟩
  · rw [va_up_n (by omega), va_up_s, pk_un hj]; exact (h4 j hj).1
  · rw [va_up_s, pk_un hj]; exact (h4 j hj).2
  · rw [va_up_s, pk_uLn hj]; exact h8 j hj
/-! the parts of a step, on both sides -/
theorem mr_begun {s : Nat} {li : Int32} (h : mr_ok z r t q I J M W) : mr_ok z r t (rs_begun s q) (va_up I 54 li) J (va_up M 33 (upd (M 33) s 1)) W := by
  obtain ⟨a1, a2, a3, a4, a5, a6, a7, a8, a9, a10, a11, a12, a13⟩ := h
  refine ⟨a1, a2, a3, a4, a5, a6, a7, a8, a9, a10, a11, a12, fun i hi => ?_⟩
  show va_up M 33 (upd (M 33) s 1) 33 i = upd (qG q) s 1 i
  rw [va_up_s]
  by_cases y : i = s
  · rw [y, pk_us, pk_us]
  · rw [pk_un y, pk_un y]; exact a13 i hi
theorem mr_row {li x : Int32} {X : Int64} (hX : X = x.toInt64) (hT : qT q < 2 ^ 31) (h : mr_ok z r t q I J M W) : mr_ok z r t (rs_row li x q) I J (mw_M M r (qN q) li) (mw_W W J r (qN q) X) := by
  subst hX
  obtain ⟨a1, a2, a3, a4, a5, a6, a7, a8, a9, a10, a11, a12, a13⟩ := h
  refine ⟨a1, fun y => a2 (by have y : qN q + 1 < 2000 := y; omega), a3, a4, a5, a6, ?_, a8, fun k hk => ?_, a10, a11, a12, a13⟩
  · exact (congrFun va_up_s r).trans pk_us
  · replace hk : k < qN q + 1 := hk
    show mw_M M r (qN q) li 46 (2000 * r + k) = upd (qR q).1 (qN q) li k ∧ mw_W W J r (qN q) x.toInt64 47 (2000 * r + k) = (upd (qR q).2.1 (qN q) (nI (qT q)) k).toInt64 ∧ mw_W W J r (qN q) x.toInt64 48 (2000 * r + k) = (upd (qR q).2.2 (qN q) x k).toInt64
    unfold mw_M mw_W
    rw [va_up_n (by decide), va_up_s, va_up_n (by decide), va_up_s, va_up_s]
    by_cases y : k = qN q
    · rw [y, pk_us, pk_us, pk_us, pk_us, pk_uLs, pk_uLs, a3, nI_l hT]
      exact ⟨rfl, rfl, rfl⟩
    · rw [pk_un (by omega), pk_un y, pk_un y, pk_un y, pk_uLn (by omega), pk_uLn (by omega)]
      exact a9 k (by omega)
theorem mr_set {v : Nat} {x : Int32} {X : Int64} (hX : X = x.toInt64) (hT : qT q < 2 ^ 31) (h : mr_ok z r t q I J M W) : mr_ok z r t (rs_set v x q) I J M (mw_S W J v X) := by
  subst hX
  obtain ⟨a1, a2, a3, a4, a5, a6, a7, a8, a9, a10, a11, a12, a13⟩ := h
  refine ⟨a1, a2, a3, a4, fun u hu => ?_, fun u hu hb => ?_, a7, a8, a9, a10, a11, a12, a13⟩
  · show mw_S W J v x.toInt64 58 u = (bhI (va_up (qB q) v (qT q + 1) u)).toInt64
    unfold mw_S
    rw [va_up_s]
    by_cases y : u = v
    · rw [y, va_up_s, bhI_s, nI_l hT, ← a3]
      exact pk_uLs
    · rw [va_up_n y, ← a5 u hu]
      exact pk_uLn y
  · show mw_S W J v x.toInt64 57 u = (upd (qS q) v x u).toInt64
    unfold mw_S
    rw [va_up_n (by decide), va_up_s]
    by_cases y : u = v
    · rw [y, pk_us, pk_uLs]
    · rw [pk_un y, pk_uLn y]
      have e1 : qB (rs_set v x q) u = qB q u := va_up_n y
      exact a6 u hu (by rw [← e1]; exact hb)
theorem mr_time {T : Nat} (h : mr_ok z r t q I J M W) : mr_ok z r t (rs_at_time T q) I (va_up J 52 (lN T)) M W := by
  obtain ⟨a1, a2, a3, ar⟩ := h
  exact ⟨a1, a2, rfl, ar⟩
theorem mr_tick (h : mr_ok z r t q I J M W) : mr_ok z r t (rs_tick q) I (va_up J 52 (lN (qT q + 1))) M W := by
  obtain ⟨a1, a2, a3, ar⟩ := h
  exact ⟨a1, a2, rfl, ar⟩
theorem mr_drawn {y : Int64} (hy : qN q < 2000 → y = rs_dr q) (h : mr_ok z r t q I J M W) : mr_ok z r t (rs_drawn q) I (va_up J 53 y) M W := by
  obtain ⟨a1, a2, a3, ar⟩ := h
  exact ⟨a1, fun q2 => hy q2, a3, ar⟩
theorem mr_oc {y : Int32} (h : mr_ok z r t q I J M W) : mr_ok z r t q (va_up I 55 y) J M W := h
theorem mr_fault {m y : Int32} {f : Nat} (hy : y = fb m f) (hm : ∀ g, 1 ≤ g → g < 9 → g ≠ f → fb m g = fb (qF q) g) (h : mr_ok z r t q I J M W) : mr_ok z r t (rs_fault m q) I J (va_up M 56 (upd (M 56) f y)) W := by
  obtain ⟨a1, a2, a3, a4, ar⟩ := h
  refine ⟨a1, a2, a3, fun g g1 g2 => ?_, ar⟩
  show va_up M 56 (upd (M 56) f y) 56 g = fb m g
  rw [va_up_s]
  by_cases w : g = f
  · rw [w, pk_us]; exact hy
  · rw [pk_un w, hm g g1 g2 w]; exact a4 g g1 g2
theorem mr_lv1 {ve li : Int32} {N be : Nat} (hN : be + 1 = N) (hT : qT q < 2 ^ 31) (hve : ve ≠ 0) (hW : (qW q).1 = 0) (hL : qL q = -1 ∨ ∃ k, k ≤ 2000 ∧ qL q = nI k) (h : mr_ok z r t q I J M W) : mr_ok z r t (rs_leave ve li be q) (lv_I I N) J (va_up (va_up M 20 (upd (M 20) t ve)) 21 (upd (M 21) t li)) (va_up W 22 (vp_updL (W 22) t (J 52))) := by
  obtain ⟨a1, a2, a3, a4, a5, a6, a7, a8, a9, a10, a11, a12, a13⟩ := h
  have e1 : rs_leave ve li be q = (qD q, qF q, qT q, qB q, qS q, qN q, (if qL q = -1 then nI be else qL q), qR q, (ve, li, nI (qT q)), qG q) := if_pos hW
  rw [e1]
  have i44 : lv_I I N 44 = I 44 := by
    unfold lv_I
    split
    · exact va_up_n (by decide)
    · rfl
  have i51 : lv_I I N 51 = if qL q = -1 then nI be else qL q := by
    unfold lv_I
    by_cases y : qL q = -1
    · rw [if_pos (by rw [a8, y]; decide), if_pos y, va_up_s, ← hN]; rfl
    · obtain ⟨k, k1, k2⟩ := hL.resolve_left y
      rw [if_neg (by rw [a8, k2]; exact nI_pos (by omega)), if_neg y, a8]
  refine ⟨i44.trans a1, a2, a3, a4, a5, a6, a7, i51, a9, ?_, ?_, fun _ => ?_, a13⟩
  · exact (congrFun (va_up_n (by decide)) t).trans ((congrFun va_up_s t).trans pk_us)
  · exact (congrFun va_up_s t).trans pk_us
  · refine (congrFun va_up_s t).trans (pk_uLs.trans ?_)
    rw [a3]
    exact (nI_l hT).symm
theorem mr_lv0 {ve li : Int32} {be : Nat} (hW : (qW q).1 ≠ 0) (h : mr_ok z r t q I J M W) : mr_ok z r t (rs_leave ve li be q) I J M W := by
  rw [show rs_leave ve li be q = q from if_neg hW]
  exact h
end MG
