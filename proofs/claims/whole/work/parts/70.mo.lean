/-! THE MODEL'S STATE: fields I (int), J (long); arrays M (int, boolean), W (long), by the field's number -/
def mo_len : Nat → Nat
  | 2 => 4000
  | 4 => 4000
  | 12 => 21
  | 13 => 21
  | 15 => 13
  | 16 => 13
  | 17 => 14
  | 18 => 13
  | 19 => 13
  | 20 => 13
  | 21 => 13
  | 22 => 13
  | 24 => 1200
  | 25 => 1200
  | 26 => 1200
  | 27 => 1200
  | 28 => 1200
  | 29 => 1200
  | 30 => 1200
  | 31 => 1200
  | 32 => 1200
  | 33 => 1200
  | 35 => 2000
  | 37 => 12
  | 39 => 200
  | 40 => 200
  | 41 => 200
  | 42 => 9
  | 45 => 8
  | 46 => 16000
  | 47 => 16000
  | 48 => 16000
  | 50 => 100
  | 56 => 9
  | 57 => 21
  | 58 => 21
  | 59 => 12
  | _ => 0
def mo_kd : Nat → Nat
  | 2 => 0
  | 4 => 0
  | 12 => 0
  | 13 => 0
  | 15 => 0
  | 16 => 0
  | 17 => 0
  | 18 => 0
  | 19 => 0
  | 20 => 0
  | 21 => 0
  | 22 => 1
  | 24 => 0
  | 25 => 0
  | 26 => 0
  | 27 => 1
  | 28 => 1
  | 29 => 0
  | 30 => 0
  | 31 => 0
  | 32 => 0
  | 33 => 3
  | 35 => 1
  | 37 => 0
  | 39 => 0
  | 40 => 1
  | 41 => 1
  | 42 => 3
  | 45 => 0
  | 46 => 0
  | 47 => 1
  | 48 => 1
  | 50 => 0
  | 56 => 3
  | 57 => 1
  | 58 => 1
  | 59 => 0
  | _ => 9
def mo_V (A : Nat → Nat) (I : Nat → Int32) (J : Nat → Int64) : List Value := [.int (I 0), .int (I 1), .ref (A 2), .int (I 3), .ref (A 4), .int (I 5), .int (I 6), .int (I 7), .int (I 8), .long (J 9), .int (I 10), .int (I 11), .ref (A 12), .ref (A 13), .int (I 14), .ref (A 15), .ref (A 16), .ref (A 17), .ref (A 18), .ref (A 19), .ref (A 20), .ref (A 21), .ref (A 22), .int (I 23), .ref (A 24), .ref (A 25), .ref (A 26), .ref (A 27), .ref (A 28), .ref (A 29), .ref (A 30), .ref (A 31), .ref (A 32), .ref (A 33), .int (I 34), .ref (A 35), .int (I 36), .ref (A 37), .int (I 38), .ref (A 39), .ref (A 40), .ref (A 41), .ref (A 42), .long (J 43), .int (I 44), .ref (A 45), .ref (A 46), .ref (A 47), .ref (A 48), .int (I 49), .ref (A 50), .int (I 51), .long (J 52), .long (J 53), .int (I 54), .int (I 55), .ref (A 56), .ref (A 57), .ref (A 58), .ref (A 59)]
def mo_C (c : Nat) : Prop := 120 ≤ c ∧ c ≤ 180
def mo_at (G0 : pm_G) (a : Nat) (A : Nat → Nat) (I : Nat → Int32) (J : Nat → Int64) (M : Nat → Nat → Int32) (W : Nat → Nat → Int64) (G : pm_G) : Prop :=
  G a = some (120, .inr (9, mo_V A I J)) ∧ (∀ i, mo_kd i = 0 → G (A i) = some (121 + i, .inl (0, mo_len i, .inl (M i)))) ∧ (∀ i, mo_kd i = 3 → G (A i) = some (121 + i, .inl (3, mo_len i, .inl (M i)))) ∧ (∀ i, mo_kd i = 1 → G (A i) = some (121 + i, .inl (1, mo_len i, .inr (.inl (W i))))) ∧ pm_fr mo_C G0 G
theorem mo_lt {i : Nat} (h : mo_kd i ≠ 9) : i < 60 := by
  apply Nat.lt_of_not_le
  intro q
  apply h
  unfold mo_kd
  split <;> first | omega | rfl
section MO
variable {l : Launch} {X : pm_X} {μ : pm_M} {d mc ms : Nat} {Q : Option Value → pm_G → Prop} {k n pc : Nat} {ls : List (Nat × Value)} {st : List Value} {G G0 : pm_G} {a : Nat} {A : Nat → Nat} {I : Nat → Int32} {J : Nat → Int64} {M : Nat → Nat → Int32} {W : Nat → Nat → Int64}
theorem mo_at.re (h : mo_at G0 a A I J M W G) : mo_at G a A I J M W G := ⟨h.1, h.2.1, h.2.2.1, h.2.2.2.1, pm_fr.rf⟩
theorem mo_at.base {G1 : pm_G} (h : mo_at G1 a A I J M W G) (hf : pm_fr mo_C G0 G1) : mo_at G0 a A I J M W G := ⟨h.1, h.2.1, h.2.2.1, h.2.2.2.1, hf.tr h.2.2.2.2⟩
theorem mo_at.fr {G' : pm_G} {S : Nat → Prop} (h : mo_at G0 a A I J M W G) (hf : pm_fr S G G') (hS : ∀ c, mo_C c → ¬ S c) : mo_at G' a A I J M W G' := by
  have key : ∀ i, i < 60 → ¬ S (121 + i) := fun i hi => hS _ (by unfold mo_C; omega)
  refine ⟨hf _ _ _ h.1 (hS _ (by unfold mo_C; omega)), fun i hi => hf _ _ _ (h.2.1 i hi) (key i (mo_lt (by omega))), fun i hi => hf _ _ _ (h.2.2.1 i hi) (key i (mo_lt (by omega))), fun i hi => hf _ _ _ (h.2.2.2.1 i hi) (key i (mo_lt (by omega))), pm_fr.rf⟩
/-- a field is written -/
theorem mo_at.fld {I' : Nat → Int32} {J' : Nat → Int64} (h : mo_at G0 a A I J M W G) : mo_at G0 a A I' J' M W (pm_up G a (120, .inr (9, mo_V A I' J'))) := by
  refine ⟨pm_up_eq, fun i hi => pm_up_ne (pm_neOA h.1 (h.2.1 i hi)).symm (h.2.1 i hi), fun i hi => pm_up_ne (pm_neOA h.1 (h.2.2.1 i hi)).symm (h.2.2.1 i hi), fun i hi => pm_up_ne (pm_neOA h.1 (h.2.2.2.1 i hi)).symm (h.2.2.2.1 i hi), h.2.2.2.2.tr (pm_fr.put h.1 (by unfold mo_C; omega))⟩
theorem mo_at.arI {i : Nat} {f : Nat → Int32} (h : mo_at G0 a A I J M W G) (hi : mo_kd i = 0) : mo_at G0 a A I J (va_up M i f) W (pm_up G (A i) (121 + i, .inl (0, mo_len i, .inl f))) := by
  have c := h.2.1 i hi
  have hl := mo_lt (i := i) (by omega)
  refine ⟨pm_up_ne (pm_neOA h.1 c) h.1, fun j hj => ?_, fun j hj => ?_, fun j hj => ?_, h.2.2.2.2.tr (pm_fr.put c (by unfold mo_C; omega))⟩
  · by_cases q : j = i
    · rw [q, show va_up M i f i = f from if_pos rfl]; exact pm_up_eq
    · rw [show va_up M i f j = M j from if_neg q]; exact pm_up_ne (pm_neK (h.2.1 j hj) c (by omega)) (h.2.1 j hj)
  · have q : j ≠ i := fun e => by rw [e, hi] at hj; cases hj
    rw [show va_up M i f j = M j from if_neg q]; exact pm_up_ne (pm_neK (h.2.2.1 j hj) c (by omega)) (h.2.2.1 j hj)
  · have q : j ≠ i := fun e => by rw [e, hi] at hj; cases hj
    exact pm_up_ne (pm_neK (h.2.2.2.1 j hj) c (by omega)) (h.2.2.2.1 j hj)
theorem mo_at.arZ {i : Nat} {f : Nat → Int32} (h : mo_at G0 a A I J M W G) (hi : mo_kd i = 3) : mo_at G0 a A I J (va_up M i f) W (pm_up G (A i) (121 + i, .inl (3, mo_len i, .inl f))) := by
  have c := h.2.2.1 i hi
  have hl := mo_lt (i := i) (by omega)
  refine ⟨pm_up_ne (pm_neOA h.1 c) h.1, fun j hj => ?_, fun j hj => ?_, fun j hj => ?_, h.2.2.2.2.tr (pm_fr.put c (by unfold mo_C; omega))⟩
  · have q : j ≠ i := fun e => by rw [e, hi] at hj; cases hj
    rw [show va_up M i f j = M j from if_neg q]; exact pm_up_ne (pm_neK (h.2.1 j hj) c (by omega)) (h.2.1 j hj)
  · by_cases q : j = i
    · rw [q, show va_up M i f i = f from if_pos rfl]; exact pm_up_eq
    · rw [show va_up M i f j = M j from if_neg q]; exact pm_up_ne (pm_neK (h.2.2.1 j hj) c (by omega)) (h.2.2.1 j hj)
  · have q : j ≠ i := fun e => by rw [e, hi] at hj; cases hj
    exact pm_up_ne (pm_neK (h.2.2.2.1 j hj) c (by omega)) (h.2.2.2.1 j hj)
theorem mo_at.arL {i : Nat} {f : Nat → Int64} (h : mo_at G0 a A I J M W G) (hi : mo_kd i = 1) : mo_at G0 a A I J M (va_up W i f) (pm_up G (A i) (121 + i, .inl (1, mo_len i, .inr (.inl f)))) := by
  have c := h.2.2.2.1 i hi
  have hl := mo_lt (i := i) (by omega)
  refine ⟨pm_up_ne (pm_neOA h.1 c) h.1, fun j hj => ?_, fun j hj => ?_, fun j hj => ?_, h.2.2.2.2.tr (pm_fr.put c (by unfold mo_C; omega))⟩
  · have q : j ≠ i := fun e => by rw [e, hi] at hj; cases hj
    exact pm_up_ne (pm_neK (h.2.1 j hj) c (by omega)) (h.2.1 j hj)
  · have q : j ≠ i := fun e => by rw [e, hi] at hj; cases hj
    exact pm_up_ne (pm_neK (h.2.2.1 j hj) c (by omega)) (h.2.2.1 j hj)
  · by_cases q : j = i
    · rw [q, show va_up W i f i = f from if_pos rfl]; exact pm_up_eq
    · rw [show va_up W i f j = W j from if_neg q]; exact pm_up_ne (pm_neK (h.2.2.2.1 j hj) c (by omega)) (h.2.2.2.1 j hj)
/-! the rules -/
theorem em_getI {idx i : Nat} {ty : FieldType} {fin : Bool} {x : Int32} (hG : mo_at G0 a A I J M W G) (hd : decode μ.2.1 pc = .ok (.getfield idx, 3)) (hf : pm_fok μ.1.cls idx 9 i ty fin) (hv : (mo_V A I J)[i]? = some (.int (I i))) (hx : I i = x) (kk : ev_W l X μ d mc ms Q k n (pc + 3) ls (.int x :: st) G) : ev_W l X μ d mc ms Q k n pc ls (.ref a :: st) G := by
  subst hx
  exact ev_get hd hf hG.1 hv kk
theorem em_getJ {idx i : Nat} {ty : FieldType} {fin : Bool} {x : Int64} (hG : mo_at G0 a A I J M W G) (hd : decode μ.2.1 pc = .ok (.getfield idx, 3)) (hf : pm_fok μ.1.cls idx 9 i ty fin) (hv : (mo_V A I J)[i]? = some (.long (J i))) (hx : J i = x) (kk : ev_W l X μ d mc ms Q k n (pc + 3) ls (.long x :: st) G) : ev_W l X μ d mc ms Q k n pc ls (.ref a :: st) G := by
  subst hx
  exact ev_get hd hf hG.1 hv kk
theorem em_getA {idx i : Nat} {ty : FieldType} {fin : Bool} (hG : mo_at G0 a A I J M W G) (hd : decode μ.2.1 pc = .ok (.getfield idx, 3)) (hf : pm_fok μ.1.cls idx 9 i ty fin) (hv : (mo_V A I J)[i]? = some (.ref (A i))) (kk : ev_W l X μ d mc ms Q k n (pc + 3) ls (.ref (A i) :: st) G) : ev_W l X μ d mc ms Q k n pc ls (.ref a :: st) G := ev_get hd hf hG.1 hv kk
theorem em_putI {idx i : Nat} {ty : FieldType} {x : Int32} (hG : mo_at G0 a A I J M W G) (hd : decode μ.2.1 pc = .ok (.putfield idx, 3)) (hf : pm_fok μ.1.cls idx 9 i ty false) (hn : narrow ty (.int x) = .int x) (hfit : fits ty (.int x) = true) (hlen : i < 60) (hv : (mo_V A I J).set i (.int x) = mo_V A (va_up I i x) J) (kk : ∀ G', mo_at G0 a A (va_up I i x) J M W G' → ev_W l X μ d mc ms Q k n (pc + 3) ls st G') : ev_W l X μ d mc ms Q k n pc ls (.int x :: .ref a :: st) G := by
  refine ev_put hd hf hG.1 hn hfit hlen ?_
  rw [hv]
  exact kk _ hG.fld
theorem em_putJ {idx i : Nat} {ty : FieldType} {x : Int64} (hG : mo_at G0 a A I J M W G) (hd : decode μ.2.1 pc = .ok (.putfield idx, 3)) (hf : pm_fok μ.1.cls idx 9 i ty false) (hn : narrow ty (.long x) = .long x) (hfit : fits ty (.long x) = true) (hlen : i < 60) (hv : (mo_V A I J).set i (.long x) = mo_V A I (va_up J i x)) (kk : ∀ G', mo_at G0 a A I (va_up J i x) M W G' → ev_W l X μ d mc ms Q k n (pc + 3) ls st G') : ev_W l X μ d mc ms Q k n pc ls (.long x :: .ref a :: st) G := by
  refine ev_put hd hf hG.1 hn hfit hlen ?_
  rw [hv]
  exact kk _ hG.fld
theorem em_iald {i N j : Nat} {x : Int32} (hG : mo_at G0 a A I J M W G) (hd : decode μ.2.1 pc = .ok (.iaload, 1)) (hk : mo_kd i = 0) (hN : mo_len i = N) (hb : N < 2 ^ 31) (hj : j < N) (hx : M i j = x) (kk : ev_W l X μ d mc ms Q k n (pc + 1) ls (.int x :: st) G) : ev_W l X μ d mc ms Q k n pc ls (.int (nI j) :: .ref (A i) :: st) G := by
  subst hx
  refine ev_iald hd rfl (hG.2.1 i hk) (by rw [hN]; exact vp_in_nI hj hb) ?_
  rw [nI_clamp (by omega)]
  exact kk
theorem em_zald {i N j : Nat} {x : Int32} (hG : mo_at G0 a A I J M W G) (hd : decode μ.2.1 pc = .ok (.baload, 1)) (hk : mo_kd i = 3) (hN : mo_len i = N) (hb : N < 2 ^ 31) (hj : j < N) (hx : M i j = x) (kk : ev_W l X μ d mc ms Q k n (pc + 1) ls (.int x :: st) G) : ev_W l X μ d mc ms Q k n pc ls (.int (nI j) :: .ref (A i) :: st) G := by
  subst hx
  refine ev_zald hd rfl (hG.2.2.1 i hk) (by rw [hN]; exact vp_in_nI hj hb) ?_
  rw [nI_clamp (by omega)]
  exact kk
theorem em_lald {i N j : Nat} {x : Int64} (hG : mo_at G0 a A I J M W G) (hd : decode μ.2.1 pc = .ok (.laload, 1)) (hk : mo_kd i = 1) (hN : mo_len i = N) (hb : N < 2 ^ 31) (hj : j < N) (hx : W i j = x) (kk : ev_W l X μ d mc ms Q k n (pc + 1) ls (.long x :: st) G) : ev_W l X μ d mc ms Q k n pc ls (.int (nI j) :: .ref (A i) :: st) G := by
  subst hx
  refine ev_lald hd rfl (hG.2.2.2.1 i hk) (by rw [hN]; exact vp_in_nI hj hb) ?_
  rw [nI_clamp (by omega)]
  exact kk
theorem em_iast {i N j : Nat} {x : Int32} (hG : mo_at G0 a A I J M W G) (hd : decode μ.2.1 pc = .ok (.iastore, 1)) (hk : mo_kd i = 0) (hN : mo_len i = N) (hb : N < 2 ^ 31) (hj : j < N) (kk : ∀ G', mo_at G0 a A I J (va_up M i (upd (M i) j x)) W G' → ev_W l X μ d mc ms Q k n (pc + 1) ls st G') : ev_W l X μ d mc ms Q k n pc ls (.int x :: .int (nI j) :: .ref (A i) :: st) G := by
  refine ev_iast hd rfl (hG.2.1 i hk) (by rw [hN]; exact vp_in_nI hj hb) ?_
  rw [nI_clamp (by omega)]
  exact kk _ (hG.arI hk)
theorem em_zast {i N j : Nat} {x : Int32} (hG : mo_at G0 a A I J M W G) (hd : decode μ.2.1 pc = .ok (.bastore, 1)) (hk : mo_kd i = 3) (hN : mo_len i = N) (hb : N < 2 ^ 31) (hj : j < N) (hx : vp_nar .boolean x = x) (kk : ∀ G', mo_at G0 a A I J (va_up M i (upd (M i) j x)) W G' → ev_W l X μ d mc ms Q k n (pc + 1) ls st G') : ev_W l X μ d mc ms Q k n pc ls (.int x :: .int (nI j) :: .ref (A i) :: st) G := by
  refine ev_zast hd rfl (hG.2.2.1 i hk) (by rw [hN]; exact vp_in_nI hj hb) ?_
  rw [nI_clamp (by omega), hx]
  exact kk _ (hG.arZ hk)
theorem em_last {i N j : Nat} {x : Int64} (hG : mo_at G0 a A I J M W G) (hd : decode μ.2.1 pc = .ok (.lastore, 1)) (hk : mo_kd i = 1) (hN : mo_len i = N) (hb : N < 2 ^ 31) (hj : j < N) (kk : ∀ G', mo_at G0 a A I J M (va_up W i (vp_updL (W i) j x)) G' → ev_W l X μ d mc ms Q k n (pc + 1) ls st G') : ev_W l X μ d mc ms Q k n pc ls (.long x :: .int (nI j) :: .ref (A i) :: st) G := by
  refine ev_last hd rfl (hG.2.2.2.1 i hk) (by rw [hN]; exact vp_in_nI hj hb) ?_
  rw [nI_clamp (by omega)]
  exact kk _ (hG.arL hk)
theorem va_up2 {α : Type} {f : Nat → α} {k : Nat} {x y : α} : va_up (va_up f k x) k y = va_up f k y := by
  funext j
  unfold va_up
  split <;> rfl
theorem va_upc {α : Type} {f : Nat → α} {k m : Nat} {x y : α} (h : k ≠ m) : va_up (va_up f k x) m y = va_up (va_up f m y) k x := by
  funext j
  unfold va_up
  by_cases q : j = m
  · rw [if_pos q, if_neg (by omega), if_pos q]
  · rw [if_neg q, if_neg q]
theorem va_up0 {α : Type} {f : Nat → α} {k : Nat} : va_up f k (f k) = f := by
  funext j
  unfold va_up
  split
  · rename_i q; rw [q]
  · rfl
theorem cI_v {p : Prop} : vp_nar .boolean (cI p) = cI p := by
  by_cases h : p
  · rw [cI_t h]; rfl
  · rw [cI_f h]; rfl
end MO
