/-! THE MODEL RUNS: test -/
def yD (q : rr_T) : Int64 := q.1
def yN (q : rr_T) : Nat := q.2.2.1
def yL (q : rr_T) : Int32 := q.2.2.2.1
def yR (q : rr_T) : (Nat → Int32) × (Nat → Int32) × (Nat → Int32) := q.2.2.2.2.1
def yG (q : rr_T) : Nat → Int32 := q.2.2.2.2.2.1
def yu (q : rr_T) : Nat := q.2.2.2.2.2.2.1
def yU (q : rr_T) : Nat → Int32 := q.2.2.2.2.2.2.2.1
def yT (q : rr_T) : Nat → Nat → Int32 := q.2.2.2.2.2.2.2.2.1
def yw (q : rr_T) : Int32 := q.2.2.2.2.2.2.2.2.2
/-- the model's cells before test i of run r; p: the faults planted outside -/
def mrr (z : pz) (r : Nat) (p : Int32) (i : Nat) (q : rr_T) (I : Nat → Int32) (J : Nat → Int64) (M : Nat → Nat → Int32) (W : Nat → Nat → Int64) : Prop :=
  I 44 = nI (r + 1) ∧ (yN q < 2000 → J 53 = yD q) ∧ M 45 r = nI (yN q) ∧ I 51 = yL q ∧ (∀ k, k < yN q → M 46 (2000 * r + k) = (yR q).1 k ∧ W 47 (2000 * r + k) = ((yR q).2.1 k).toInt64 ∧ W 48 (2000 * r + k) = ((yR q).2.2 k).toInt64) ∧ (∀ j, j < zSn z → M 33 j = yG q j) ∧ I 49 = nI (yu q) ∧ (∀ j, j < yu q → M 50 j = yU q j) ∧ (∀ f, 1 ≤ f → f < 9 → M 42 f = fb p f) ∧ (∀ j, j < i → M 20 (j + 1) = yT q j 6 ∧ M 21 (j + 1) = yT q j 7 ∧ W 22 (j + 1) = (yT q j 8).toInt64) ∧ ∀ j, j < zTn z → M 19 (j + 1) = yT q j 5
def rrq (i : Nat) (q : rr_T) : Prop := yN q ≤ 2000 ∧ (∃ d, d < 2 ^ 32 ∧ yD q = lN d) ∧ (yL q = -1 ∨ ∃ k, k ≤ 2000 ∧ yL q = nI k) ∧ yu q ≤ 8 * i
/-- what stays while run r is done -/
def mt_fr (r : Nat) (I I' : Nat → Int32) (J J' : Nat → Int64) (M M' : Nat → Nat → Int32) (W W' : Nat → Nat → Int64) : Prop :=
  (∀ i, i ≠ 49 → i ≠ 51 → i ≠ 54 → i ≠ 55 → I' i = I i) ∧ (∀ i, i ≠ 52 → i ≠ 53 → J' i = J i) ∧ (∀ k, k ≠ 19 → k ≠ 20 → k ≠ 21 → k ≠ 33 → k ≠ 37 → k ≠ 45 → k ≠ 46 → k ≠ 50 → k ≠ 56 → k ≠ 59 → M' k = M k) ∧ (∀ j, j ≠ r → M' 45 j = M 45 j) ∧ (∀ j, j < 2000 * r → M' 46 j = M 46 j) ∧ (∀ k, k ≠ 22 → k ≠ 47 → k ≠ 48 → k ≠ 57 → k ≠ 58 → W' k = W k) ∧ ∀ j, j < 2000 * r → W' 47 j = W 47 j ∧ W' 48 j = W 48 j
section MTF
variable {r t : Nat} {I I' I2 : Nat → Int32} {J J' J2 : Nat → Int64} {M M' M2 : Nat → Nat → Int32} {W W' W2 : Nat → Nat → Int64}
theorem mt_fr.rf : mt_fr r I I J J M M W W := ⟨fun _ _ _ _ _ => rfl, fun _ _ _ => rfl, fun _ _ _ _ _ _ _ _ _ _ _ => rfl, fun _ _ => rfl, fun _ _ => rfl, fun _ _ _ _ _ _ => rfl, fun _ _ => ⟨rfl, rfl⟩⟩
theorem mt_fr.tr (h : mt_fr r I I' J J' M M' W W') (g : mt_fr r I' I2 J' J2 M' M2 W' W2) : mt_fr r I I2 J J2 M M2 W W2 := by
  obtain ⟨h1, h2, h3, h5, h6, h7, h9⟩ := h
  obtain ⟨g1, g2, g3, g5, g6, g7, g9⟩ := g
  exact ⟨fun i a b c d => (g1 i a b c d).trans (h1 i a b c d), fun i a b => (g2 i a b).trans (h2 i a b), fun k a b c d e f g i j l => (g3 k a b c d e f g i j l).trans (h3 k a b c d e f g i j l), fun j hj => (g5 j hj).trans (h5 j hj), fun j hj => (g6 j hj).trans (h6 j hj), fun k a b c d e => (g7 k a b c d e).trans (h7 k a b c d e), fun j hj => ⟨(g9 j hj).1.trans (h9 j hj).1, (g9 j hj).2.trans (h9 j hj).2⟩⟩
theorem mg_fr.mt (h : mg_fr r t I I' J J' M M' W W') : mt_fr r I I' J J' M M' W W' := by
  obtain ⟨h1, h2, h3, h4, h5, h6, h7, h8, h9⟩ := h
  exact ⟨fun i _ b c d => h1 i b c d, h2, fun k _ b c d e f g _ i j => h3 k b c d e f g i j, h5, h6, h7, h9⟩
theorem mt_fr.i {k : Nat} {x : Int32} (h : mt_fr r I I' J J' M M' W W') (hk : k = 49 ∨ k = 51 ∨ k = 54 ∨ k = 55) : mt_fr r I (va_up I' k x) J J' M M' W W' := ⟨fun i a b c d => by rw [va_up_n (by omega)]; exact h.1 i a b c d, h.2⟩
theorem mt_fr.j {k : Nat} {x : Int64} (h : mt_fr r I I' J J' M M' W W') (hk : k = 52 ∨ k = 53) : mt_fr r I I' J (va_up J' k x) M M' W W' := ⟨h.1, fun i a b => by rw [va_up_n (by omega)]; exact h.2.1 i a b, h.2.2⟩
theorem mt_fr.m {k : Nat} {x : Nat → Int32} (h : mt_fr r I I' J J' M M' W W') (hk : k = 19 ∨ k = 20 ∨ k = 21 ∨ k = 33 ∨ k = 37 ∨ k = 50 ∨ k = 56 ∨ k = 59) : mt_fr r I I' J J' M (va_up M' k x) W W' := by
  obtain ⟨h1, h2, h3, h5, h6, h7⟩ := h
  refine ⟨h1, h2, fun i a b c d e f g j l m => by rw [va_up_n (by omega)]; exact h3 i a b c d e f g j l m, fun j hj => ?_, fun j hj => ?_, h7⟩
  · rw [va_up_n (by omega)]; exact h5 j hj
  · rw [va_up_n (by omega)]; exact h6 j hj
theorem mt_fr.w {k : Nat} {x : Nat → Int64} (h : mt_fr r I I' J J' M M' W W') (hk : k = 22 ∨ k = 57 ∨ k = 58) : mt_fr r I I' J J' M M' W (va_up W' k x) := by
  obtain ⟨h1, h2, h3, h5, h6, h7, h9⟩ := h
  refine ⟨h1, h2, h3, h5, h6, fun i a b c d e => by rw [va_up_n (by omega)]; exact h7 i a b c d e, fun j hj => ?_⟩
  rw [va_up_n (by omega), va_up_n (by omega)]
  exact h9 j hj
end MTF
theorem fb_01 {m : Int32} {f : Nat} : fb m f = 0 ∨ fb m f = 1 := by
  unfold fb
  split
  · exact Or.inl rfl
  · exact Or.inr rfl
theorem fb_un {a p : Int32} {f : Nat} (hf : f < 9) : fb (a &&& (p ^^^ (-1))) f = 0 ↔ ¬ (fb a f = 1 ∧ fb p f = 0) := by
  have e : (-1 : Int32).toBitVec.getLsbD f = true := by
    have : ∀ f, f < 9 → (-1 : Int32).toBitVec.getLsbD f = true := by decide
    exact this f hf
  rw [fb_bit hf, fb_bit hf, fb_bit hf, Int32.toBitVec_and, Int32.toBitVec_xor, BitVec.getLsbD_and, BitVec.getLsbD_xor, e]
  cases a.toBitVec.getLsbD f <;> cases p.toBitVec.getLsbD f <;> decide
theorem uf_s {m : Int32} {u : Nat} {U : Nat → Int32} {k : Nat} : uf_R m u U (k + 1) = if fb m (k + 1) = 0 then uf_R m u U k else ((uf_R m u U k).1 + 1, upd (uf_R m u U k).2 (uf_R m u U k).1 (nI (k + 1))) := by
  rw [uf_R]
  by_cases q : m &&& (1 : Int32) <<< (nI (k + 1) &&& 31) = 0
  · rw [if_pos q, if_pos (by unfold fb; rw [if_pos q])]
  · rw [if_neg q, if_neg (by unfold fb; rw [if_neg q]; decide)]
section MTE
variable {l : Launch} {X : pm_X} {G G0 : pm_G} {a : Nat} {A : Nat → Nat} {I : Nat → Int32} {J : Nat → Int64} {M : Nat → Nat → Int32} {W : Nat → Nat → Int64} {z : pz} {lv : Nat → Nat} {r t c n N u : Nat} {qf p : Int32} {U : Nat → Int32} {Q : Option Value → pm_G → Prop}
/-- the faults that are taken back -/
theorem mo_test_un (h49 : I 49 = nI u) (hu : u + 8 ≤ 100) (h50 : ∀ j, j < u → M 50 j = U j) (h56 : ∀ f, 1 ≤ f → f < 9 → M 56 f = fb qf f) (h42 : ∀ f, 1 ≤ f → f < 9 → M 42 f = fb p f)
    (fin : ∀ (f : Nat → Int32) (G : pm_G), (∀ j, j < (uf_R (qf &&& (p ^^^ (-1))) u U 8).1 → f j = (uf_R (qf &&& (p ^^^ (-1))) u U 8).2 j) → mo_at G0 a A (va_up I 49 (nI (uf_R (qf &&& (p ^^^ (-1))) u U 8).1)) J (va_up M 50 f) W G → Q none G) (hG : mo_at G0 a A I J M W G) : ev_W l X m_Mo_test 5 0 0 Q 0 0 213 [(0, .ref a), (1, .int (nI t)), (2, .int (nI 9))] [] G := by
  have loop : ∀ (m k : Nat) (f : Nat → Int32) (G : pm_G), k + m = 8 → (∀ j, j < (uf_R (qf &&& (p ^^^ (-1))) u U k).1 → f j = (uf_R (qf &&& (p ^^^ (-1))) u U k).2 j) → mo_at G0 a A (va_up I 49 (nI (uf_R (qf &&& (p ^^^ (-1))) u U k).1)) J (va_up M 50 f) W G → ev_W l X m_Mo_test 5 0 0 Q 0 0 215 [(0, .ref a), (1, .int (nI t)), (2, .int (nI (k + 1)))] [] G := by
    intro m
    induction m with
    | zero =>
      intro k f G hk hf hG
      have k8 : k = 8 := by omega
      subst k8
      refine ev_iload_n d_Mo_test_215 rfl rfl ?_
      refine ev_bipush (v := 9) d_Mo_test_216 (by decide) ?_
      refine ev_icmp_ge 274 d_Mo_test_218 (by decide) (fun _ => ?_) (fun w => absurd (show (9 : Int32) ≤ nI (8 + 1) by decide) w)
      exact ev_vret d_Mo_test_274 rfl (fin f G hf hG)
    | succ m ih =>
      intro k f G hk hf hG
      have g56 := h56 (k + 1) (by omega) (by omega)
      have g42 := h42 (k + 1) (by omega) (by omega)
      have hle := uf_R_le (qf &&& (p ^^^ (-1))) u U k
      have next : ∀ (f : Nat → Int32) (G : pm_G), (∀ j, j < (uf_R (qf &&& (p ^^^ (-1))) u U (k + 1)).1 → f j = (uf_R (qf &&& (p ^^^ (-1))) u U (k + 1)).2 j) → mo_at G0 a A (va_up I 49 (nI (uf_R (qf &&& (p ^^^ (-1))) u U (k + 1)).1)) J (va_up M 50 f) W G → ev_W l X m_Mo_test 5 0 0 Q 0 0 268 [(0, .ref a), (1, .int (nI t)), (2, .int (nI (k + 1)))] [] G := by
        intro f G hf hG
        refine ev_iinc d_Mo_test_268 rfl (by first | exact nI_1 _ | rfl) (by decide) ?_
        refine ev_goto 215 d_Mo_test_271 (by decide) ?_
        exact ih (k + 1) f G (by omega) hf hG
      have skip : ¬ (fb qf (k + 1) = 1 ∧ fb p (k + 1) = 0) → ev_W l X m_Mo_test 5 0 0 Q 0 0 268 [(0, .ref a), (1, .int (nI t)), (2, .int (nI (k + 1)))] [] G := by
        intro y
        have e := uf_s (m := qf &&& (p ^^^ (-1))) (u := u) (U := U) (k := k)
        rw [if_pos ((fb_un (by omega)).mpr y)] at e
        refine next f G ?_ ?_
        · rw [e]; exact hf
        · rw [e]; exact hG
      refine ev_iload_n d_Mo_test_215 rfl rfl ?_
      refine ev_bipush (v := 9) d_Mo_test_216 (by decide) ?_
      refine ev_icmp_ge 274 d_Mo_test_218 (by decide) (fun w => absurd w (nI_ge (b := 9) (by omega) (by omega))) (fun _ => ?_)
      refine ev_aload_n d_Mo_test_221 rfl rfl ?_
      refine em_getA (i := 56) hG d_Mo_test_222 fo_Mo_115 rfl ?_
      refine ev_iload_n d_Mo_test_225 rfl rfl ?_
      refine em_zald (i := 56) (N := 9) hG d_Mo_test_226 rfl rfl (by decide) (by omega) (by (repeat (first | apply va_up_mt (h := by decide) | apply va_up_ms | apply pk_ut (h := by omega) | apply pk_uLt (h := by omega) | exact pk_us | exact pk_uLs | assumption)); all_goals rfl) ?_
      refine ev_if_eq 268 d_Mo_test_227 (by decide) (fun h1 => ?_) (fun h1 => ?_)
      · exact skip (fun y => by rw [h1] at y; exact absurd y.1 (by decide))
      · have h1 : fb qf (k + 1) = 1 := fb_01.resolve_left h1
        refine ev_aload_n d_Mo_test_230 rfl rfl ?_
        refine em_getA (i := 42) hG d_Mo_test_231 fo_Mo_93 rfl ?_
        refine ev_iload_n d_Mo_test_234 rfl rfl ?_
        refine em_zald (i := 42) (N := 9) hG d_Mo_test_235 rfl rfl (by decide) (by omega) (by (repeat (first | apply va_up_mt (h := by decide) | apply va_up_ms | apply pk_ut (h := by omega) | apply pk_uLt (h := by omega) | exact pk_us | exact pk_uLs | assumption)); all_goals rfl) ?_
        refine ev_if_ne 268 d_Mo_test_236 (by decide) (fun h2 => ?_) (fun h2 => ?_)
        · exact skip (fun y => h2 y.2)
        · have e := uf_s (m := qf &&& (p ^^^ (-1))) (u := u) (U := U) (k := k)
          rw [if_neg (fun y => (fb_un (by omega)).mp y ⟨h1, h2⟩)] at e
          refine ev_aload_n d_Mo_test_239 rfl rfl ?_
          refine em_getI (i := 49) hG d_Mo_test_240 fo_Mo_298 rfl (by (repeat (first | apply va_up_t (h := by decide) | apply mo_w_t (h5 := by decide) (h7 := by decide) (h8 := by decide) | exact va_up_s | exact mo_w_5 | exact mo_w_7 | exact mo_w_8 | assumption)); all_goals rfl) ?_
          refine ev_bipush (v := 100) d_Mo_test_243 (by decide) ?_
          refine ev_icmp_ge 268 d_Mo_test_245 (by decide) (fun w => absurd w (nI_ge (b := 100) (by omega) (by omega))) (fun _ => ?_)
          refine ev_aload_n d_Mo_test_248 rfl rfl ?_
          refine em_getA (i := 50) hG d_Mo_test_249 fo_Mo_112 rfl ?_
          refine ev_aload_n d_Mo_test_252 rfl rfl ?_
          refine em_getI (i := 49) hG d_Mo_test_253 fo_Mo_298 rfl (by (repeat (first | apply va_up_t (h := by decide) | apply mo_w_t (h5 := by decide) (h7 := by decide) (h8 := by decide) | exact va_up_s | exact mo_w_5 | exact mo_w_7 | exact mo_w_8 | assumption)); all_goals rfl) ?_
          refine ev_iload_n d_Mo_test_256 rfl rfl ?_
          refine em_iast (i := 50) (N := 100) hG d_Mo_test_257 rfl rfl (by decide) (by omega) (fun G hG => ?_)
          refine ev_aload_n d_Mo_test_258 rfl rfl ?_
          refine ev_dup d_Mo_test_259 rfl ?_
          refine em_getI (i := 49) hG d_Mo_test_260 fo_Mo_298 rfl (by (repeat (first | apply va_up_t (h := by decide) | apply mo_w_t (h5 := by decide) (h7 := by decide) (h8 := by decide) | exact va_up_s | exact mo_w_5 | exact mo_w_7 | exact mo_w_8 | assumption)); all_goals rfl) ?_
          refine ev_iconst (v := 1) d_Mo_test_263 (by decide) ?_
          refine ev_iadd d_Mo_test_264 ?_
          rw [nI_1]
          refine em_putI (i := 49) hG d_Mo_test_265 fo_Mo_298 rfl rfl (by decide) mv_49 (fun G hG => ?_)
          rw [va_up2, va_up2, va_up_s] at hG
          refine next (upd f (uf_R (qf &&& (p ^^^ (-1))) u U k).1 (nI (k + 1))) G ?_ ?_
          · rw [e]
            intro j hj
            replace hj : j < (uf_R (qf &&& (p ^^^ (-1))) u U k).1 + 1 := hj
            show upd f (uf_R (qf &&& (p ^^^ (-1))) u U k).1 (nI (k + 1)) j = upd (uf_R (qf &&& (p ^^^ (-1))) u U k).2 (uf_R (qf &&& (p ^^^ (-1))) u U k).1 (nI (k + 1)) j
            by_cases w : j = (uf_R (qf &&& (p ^^^ (-1))) u U k).1
            · rw [w, pk_us, pk_us]
            · rw [pk_un w, pk_un w]; exact hf j (by omega)
          · rw [e]; exact hG
  refine ev_iconst (v := 1) d_Mo_test_213 (by decide) ?_
  refine ev_istore_n d_Mo_test_214 rfl (by decide) ?_
  refine loop 8 0 (M 50) G (by omega) h50 ?_
  rw [show (uf_R (qf &&& (p ^^^ (-1))) u U 0).1 = u from rfl, ← h49, va_up0, va_up0]
  exact hG
theorem rs_fin_n {s : rs_T} (h : (qW s).1 ≠ 0) : rs_fin s = s := if_neg h
theorem rs_fin_z {s : rs_T} (h : (qW s).1 = 0) : (qW (rs_fin s)).2.2 = nI (qT s) := by
  unfold rs_fin
  rw [if_pos h]
  rfl
/-- behind the steps: a test that was spent, the time -/
theorem mo_test_fin {oc : Nat} {s2 : rs_T} (h55 : I 55 = nI oc) (hoc : oc ≤ 2) (hr : r < 8) (ht : t ≤ 12) (h : (oc ≠ 2 ∧ mr_ok z r t s2 I J M W ∧ rq_ok s2) ∨ (oc = 2 ∧ ∃ q0, qN q0 = 2000 ∧ s2 = rs_spent q0 ∧ mr_ok z r t q0 I J M W ∧ rq_ok q0))
    (fin : ∀ (I' : Nat → Int32) (M' : Nat → Nat → Int32) (W' : Nat → Nat → Int64) (G : pm_G), mg_fr r t I I' J J M M' W W' → mr_ok z r t s2 I' J M' W' → rq_ok s2 → W' 22 t = ((qW (rs_fin s2)).2.2).toInt64 → mo_at G0 a A I' J M' W' G → ev_W l X m_Mo_test 5 0 0 Q 0 0 213 [(0, .ref a), (1, .int (nI t)), (2, .int (nI 9))] [] G) (hG : mo_at G0 a A I J M W G) : ev_W l X m_Mo_test 5 0 0 Q 0 0 138 [(0, .ref a), (1, .int (nI t)), (2, .int (nI 9))] [] G := by
  rcases h with ⟨ho, hm, hq⟩ | ⟨ho, q0, hN, rfl, hm, hq⟩
  · obtain ⟨a1, a2, a3, a4, a5, a6, a7, a8, a9, a10, a11, a12, a13⟩ := id hm
    have hT31 : qT s2 < 2 ^ 25 := by have := hq.2.1; have := hq.1; omega
    refine ev_aload_n d_Mo_test_138 rfl rfl ?_
    refine em_getI (i := 55) hG d_Mo_test_139 fo_Mo_253 rfl (by (repeat (first | apply va_up_t (h := by decide) | apply mo_w_t (h5 := by decide) (h7 := by decide) (h8 := by decide) | exact va_up_s | exact mo_w_5 | exact mo_w_7 | exact mo_w_8 | assumption)); all_goals rfl) ?_
    refine ev_iconst (v := 2) d_Mo_test_142 (by decide) ?_
    refine ev_icmp_ne 194 d_Mo_test_143 (by decide) (fun _ => ?_) (fun w => absurd ((nI_eq (a := oc) (by omega) (b := 2) (by omega)).mp w) ho)
    refine ev_aload_n d_Mo_test_194 rfl rfl ?_
    refine em_getA (i := 20) hG d_Mo_test_195 fo_Mo_37 rfl ?_
    refine ev_iload_n d_Mo_test_198 rfl rfl ?_
    refine em_iald (i := 20) (N := 13) hG d_Mo_test_199 rfl rfl (by decide) (by omega) (by (repeat (first | apply va_up_mt (h := by decide) | apply va_up_ms | apply pk_ut (h := by omega) | apply pk_uLt (h := by omega) | exact pk_us | exact pk_uLs | assumption)); all_goals rfl) ?_
    refine ev_if_ne 213 d_Mo_test_200 (by decide) (fun hv => ?_) (fun hv => ?_)
    · exact fin I M W G mg_fr.rf hm hq (by rw [rs_fin_n hv]; exact a12 hv) hG
    · refine ev_aload_n d_Mo_test_203 rfl rfl ?_
      refine em_getA (i := 22) hG d_Mo_test_204 fo_Mo_43 rfl ?_
      refine ev_iload_n d_Mo_test_207 rfl rfl ?_
      refine ev_aload_n d_Mo_test_208 rfl rfl ?_
      refine em_getJ (i := 52) hG d_Mo_test_209 fo_Mo_243 rfl (by (repeat (first | apply va_up_t (h := by decide) | apply mo_w_t (h5 := by decide) (h7 := by decide) (h8 := by decide) | exact va_up_s | exact mo_w_5 | exact mo_w_7 | exact mo_w_8 | assumption)); all_goals rfl) ?_
      refine em_last (i := 22) (N := 13) hG d_Mo_test_212 rfl rfl (by decide) (by omega) (fun G hG => ?_)
      refine fin I M _ G ?_ ?_ hq ?_ hG
      · have := (mg_fr.rf (r := r) (t := t) (I := I) (J := J) (M := M) (W := W))
        exact ⟨this.1, this.2.1, this.2.2.1, this.2.2.2.1, this.2.2.2.2.1, this.2.2.2.2.2.1, fun k b1 b2 b3 b4 b5 => va_up_n b1, fun j hj => (congrFun va_up_s j).trans (pk_uLn hj), fun j hj => ⟨rfl, rfl⟩⟩
      · exact ⟨a1, a2, a3, a4, a5, a6, a7, a8, a9, a10, a11, fun w => absurd hv w, a13⟩
      · rw [rs_fin_z hv, nI_l (by omega)]
        exact (congrFun va_up_s t).trans pk_uLs
  · obtain ⟨a1, a2, a3, a4, a5, a6, a7, a8, a9, a10, a11, a12, a13⟩ := id hm
    have hT31 : qT q0 < 2 ^ 25 := by have := hq.2.1; have := hq.1; omega
    have hrq : rq_ok (rs_spent q0) := rq_leave hq (by omega) (Or.inr rfl)
    subst ho
    refine ev_aload_n d_Mo_test_138 rfl rfl ?_
    refine em_getI (i := 55) hG d_Mo_test_139 fo_Mo_253 rfl (by (repeat (first | apply va_up_t (h := by decide) | apply mo_w_t (h5 := by decide) (h7 := by decide) (h8 := by decide) | exact va_up_s | exact mo_w_5 | exact mo_w_7 | exact mo_w_8 | assumption)); all_goals rfl) ?_
    refine ev_iconst (v := 2) d_Mo_test_142 (by decide) ?_
    refine ev_icmp_ne 194 d_Mo_test_143 (by decide) (fun w => absurd rfl w) (fun _ => ?_)
    refine ev_aload_n d_Mo_test_146 rfl rfl ?_
    refine em_getA (i := 20) hG d_Mo_test_147 fo_Mo_37 rfl ?_
    refine ev_iload_n d_Mo_test_150 rfl rfl ?_
    refine em_iald (i := 20) (N := 13) hG d_Mo_test_151 rfl rfl (by decide) (by omega) (by (repeat (first | apply va_up_mt (h := by decide) | apply va_up_ms | apply pk_ut (h := by omega) | apply pk_uLt (h := by omega) | exact pk_us | exact pk_uLs | assumption)); all_goals rfl) ?_
    refine ev_if_ne 194 d_Mo_test_152 (by decide) (fun hv => ?_) (fun hv => ?_)
    · have es : rs_spent q0 = q0 := if_neg hv
      refine ev_aload_n d_Mo_test_194 rfl rfl ?_
      refine em_getA (i := 20) hG d_Mo_test_195 fo_Mo_37 rfl ?_
      refine ev_iload_n d_Mo_test_198 rfl rfl ?_
      refine em_iald (i := 20) (N := 13) hG d_Mo_test_199 rfl rfl (by decide) (by omega) (by (repeat (first | apply va_up_mt (h := by decide) | apply va_up_ms | apply pk_ut (h := by omega) | apply pk_uLt (h := by omega) | exact pk_us | exact pk_uLs | assumption)); all_goals rfl) ?_
      refine ev_if_ne 213 d_Mo_test_200 (by decide) (fun _ => ?_) (fun w => absurd w hv)
      exact fin I M W G mg_fr.rf (by rw [es]; exact hm) hrq (by rw [es, rs_fin_n hv]; exact a12 hv) hG
    · have z21 : M 21 t = 0 := a11.trans (hq.2.2.2.2.2.2.2 hv)
      have hlv := mr_lv1 (ve := 2) (li := 0) (be := qN q0) (N := qN q0 + 1) rfl (by omega) (by decide) hv hq.2.2.2.2.2.1 hm
      have e21 : va_up (va_up M 20 (upd (M 20) t 2)) 21 (upd (M 21) t 0) = va_up M 20 (upd (M 20) t 2) := by
        rw [show upd (M 21) t 0 = M 21 by rw [← z21, upd0]]
        exact va_up0 (f := va_up M 20 (upd (M 20) t 2)) (k := 21)
      rw [e21] at hlv
      have hw2 : (qW (rs_spent q0)).1 ≠ 0 := by
        show (qW (rs_leave 2 0 (qN q0) q0)).1 ≠ 0
        unfold rs_leave
        rw [if_pos hv]
        show (2 : Int32) ≠ 0
        decide
      have w22 : va_up W 22 (vp_updL (W 22) t (J 52)) 22 t = ((qW (rs_fin (rs_spent q0))).2.2).toInt64 := by
        rw [rs_fin_n hw2]
        exact hlv.2.2.2.2.2.2.2.2.2.2.2.1 hw2
      have tail : ∀ (I' : Nat → Int32) (G : pm_G), I' = lv_I I (qN q0 + 1) → mo_at G0 a A I' J (va_up M 20 (upd (M 20) t 2)) (va_up W 22 (vp_updL (W 22) t (J 52))) G → ev_W l X m_Mo_test 5 0 0 Q 0 0 194 [(0, .ref a), (1, .int (nI t)), (2, .int (nI 9))] [] G := by
        intro I' G hI hG
        subst hI
        refine ev_aload_n d_Mo_test_194 rfl rfl ?_
        refine em_getA (i := 20) hG d_Mo_test_195 fo_Mo_37 rfl ?_
        refine ev_iload_n d_Mo_test_198 rfl rfl ?_
        refine em_iald (i := 20) (N := 13) hG d_Mo_test_199 rfl rfl (by decide) (by omega) (by (repeat (first | apply va_up_mt (h := by decide) | apply va_up_ms | apply pk_ut (h := by omega) | apply pk_uLt (h := by omega) | exact pk_us | exact pk_uLs | assumption)); all_goals rfl) ?_
        refine ev_if_ne 213 d_Mo_test_200 (by decide) (fun _ => ?_) (fun w => absurd w (by decide))
        refine fin _ _ _ G ?_ hlv hrq w22 hG
        have := mg_lvI (N := qN q0 + 1) (mg_fr.lv (ve := 2) (li := 0) (x := J 52) (mg_fr.rf (r := r) (t := t) (I := I) (J := J) (M := M) (W := W)))
        rw [e21] at this
        exact this
      refine ev_aload_n d_Mo_test_155 rfl rfl ?_
      refine em_getA (i := 20) hG d_Mo_test_156 fo_Mo_37 rfl ?_
      refine ev_iload_n d_Mo_test_159 rfl rfl ?_
      refine ev_iconst (v := 2) d_Mo_test_160 (by decide) ?_
      refine em_iast (i := 20) (N := 13) hG d_Mo_test_161 rfl rfl (by decide) (by omega) (fun G hG => ?_)
      refine ev_aload_n d_Mo_test_162 rfl rfl ?_
      refine em_getA (i := 22) hG d_Mo_test_163 fo_Mo_43 rfl ?_
      refine ev_iload_n d_Mo_test_166 rfl rfl ?_
      refine ev_aload_n d_Mo_test_167 rfl rfl ?_
      refine em_getJ (i := 52) hG d_Mo_test_168 fo_Mo_243 rfl (by (repeat (first | apply va_up_t (h := by decide) | apply mo_w_t (h5 := by decide) (h7 := by decide) (h8 := by decide) | exact va_up_s | exact mo_w_5 | exact mo_w_7 | exact mo_w_8 | assumption)); all_goals rfl) ?_
      refine em_last (i := 22) (N := 13) hG d_Mo_test_171 rfl rfl (by decide) (by omega) (fun G hG => ?_)
      refine ev_aload_n d_Mo_test_172 rfl rfl ?_
      refine em_getI (i := 51) hG d_Mo_test_173 fo_Mo_266 rfl (by (repeat (first | apply va_up_t (h := by decide) | apply mo_w_t (h5 := by decide) (h7 := by decide) (h8 := by decide) | exact va_up_s | exact mo_w_5 | exact mo_w_7 | exact mo_w_8 | assumption)); all_goals rfl) ?_
      rw [a3] at tail
      by_cases h51 : I 51 < 0
      · refine ev_if_ge 194 d_Mo_test_176 (by decide) (fun w => absurd (show qL q0 < 0 by rw [← a8]; exact h51) (Int32.not_lt.mpr w)) (fun _ => ?_)
        refine ev_aload_n d_Mo_test_179 rfl rfl ?_
        refine ev_aload_n d_Mo_test_180 rfl rfl ?_
        refine em_getA (i := 45) hG d_Mo_test_181 fo_Mo_100 rfl ?_
        refine ev_aload_n d_Mo_test_184 rfl rfl ?_
        refine em_getI (i := 44) hG d_Mo_test_185 fo_Mo_232 rfl (by (repeat (first | apply va_up_t (h := by decide) | apply mo_w_t (h5 := by decide) (h7 := by decide) (h8 := by decide) | exact va_up_s | exact mo_w_5 | exact mo_w_7 | exact mo_w_8 | assumption)); all_goals rfl) ?_
        refine ev_iconst (v := 1) d_Mo_test_188 (by decide) ?_
        refine ev_isub d_Mo_test_189 ?_
        rw [show (nI (r + 1) - 1 : Int32) = nI r from nI_pred r]
        refine em_iald (i := 45) (N := 8) hG d_Mo_test_190 rfl rfl (by decide) (by omega) (by (repeat (first | apply va_up_mt (h := by decide) | apply va_up_ms | apply pk_ut (h := by omega) | apply pk_uLt (h := by omega) | exact pk_us | exact pk_uLs | assumption)); all_goals rfl) ?_
        refine em_putI (i := 51) hG d_Mo_test_191 fo_Mo_266 rfl rfl (by decide) mv_51 (fun G hG => ?_)
        exact tail _ G (by rw [show lv_I I (qN q0 + 1) = va_up I 51 (nI (qN q0 + 1 - 1)) from if_pos h51]; rfl) hG
      · refine ev_if_ge 194 d_Mo_test_176 (by decide) (fun _ => ?_) (fun w => absurd (show I 51 < 0 by rw [a8]; exact Int32.not_le.mp w) h51)
        exact tail _ G (by rw [show lv_I I (qN q0 + 1) = I from if_neg h51]) hG
end MTE
