/-! TESTTEXTMODEL() -/
def mi_V (A : Nat → Option Nat) (s : Int64) : List Value := [.int 0, .int 0, va_rf (A 2), .int 0, va_rf (A 4), .int 0, .int 0, .int 0, .int 0, .long 0, .int 0, .int 0, va_rf (A 12), va_rf (A 13), .int 0, va_rf (A 15), va_rf (A 16), va_rf (A 17), va_rf (A 18), va_rf (A 19), va_rf (A 20), va_rf (A 21), va_rf (A 22), .int 0, va_rf (A 24), va_rf (A 25), va_rf (A 26), va_rf (A 27), va_rf (A 28), va_rf (A 29), va_rf (A 30), va_rf (A 31), va_rf (A 32), va_rf (A 33), .int 0, va_rf (A 35), .int 0, va_rf (A 37), .int 0, va_rf (A 39), va_rf (A 40), va_rf (A 41), va_rf (A 42), .long s, .int 0, va_rf (A 45), va_rf (A 46), va_rf (A 47), va_rf (A 48), .int 0, va_rf (A 50), .int 0, .long 0, .long 0, .int 0, .int 0, va_rf (A 56), va_rf (A 57), va_rf (A 58), va_rf (A 59)]
abbrev ar_T : Type := (Nat → Int32) ⊕ (Nat → Int64) ⊕ (Nat → UInt32) ⊕ (Nat → UInt64) ⊕ (Nat → Option Nat)
def ar0 (t : Nat) : ar_T := if t = 1 then .inr (.inl (fun _ => 0)) else .inl (fun _ => 0)
def mi_at (G0 : pm_G) (a : Nat) (A : Nat → Option Nat) (s : Int64) (n : Nat) (G : pm_G) : Prop := G a = some (120, .inr (9, mi_V A s)) ∧ (∀ i, i < n → mo_kd i ≠ 9 → ∃ q, A i = some q ∧ G q = some (121 + i, .inl (mo_kd i, mo_len i, ar0 (mo_kd i)))) ∧ (∀ j, n ≤ j → A j = none) ∧ pm_fr mo_C G0 G
section MI
variable {l : Launch} {X : pm_X} {μ : pm_M} {d mc ms : Nat} {Q : Option Value → pm_G → Prop} {k m pc : Nat} {ls : List (Nat × Value)} {st : List Value} {G G0 : pm_G} {a n : Nat} {A : Nat → Option Nat} {s : Int64}
theorem mi_ev (h : mi_at G0 a A s n G) (kk : ∀ (A' : Nat → Option Nat) (G' : pm_G), mi_at G0 a A' s n G' → ev_W l X μ d mc ms Q k m pc ls st G') : ev_W l X μ d mc ms Q k m pc ls st G := kk A G h
theorem mi_step {i q κ t N : Nat} {arr : ar_T} {V : List Value} (h : mi_at G0 a A s n G) (hn : n ≤ i) (hi : i < 60) (hb : ∀ j, j < i → n ≤ j → mo_kd j = 9) (hκ : κ = 121 + i) (ht : mo_kd i = t) (hN : mo_len i = N) (ha : ar0 t = arr) (h9 : t ≠ 9) (hq : G q = none) (hV : V = mi_V (va_up A i (some q)) s) : mi_at G0 a (va_up A i (some q)) s (i + 1) (pm_up (pm_up G q (κ, .inl (t, N, arr))) a (120, .inr (9, V))) := by
  obtain ⟨h1, h2, h3, h4⟩ := h
  subst hκ
  have e1 : a ≠ q := pm_neN h1 hq
  refine ⟨by rw [hV]; exact pm_up_eq, fun j hj hk => ?_, fun j hj => ?_, (h4.tr (pm_fr.new hq)).tr (pm_fr.put (pm_up_ne e1 h1) (by unfold mo_C; omega))⟩
  · by_cases y : j = i
    · subst y
      exact ⟨q, va_up_s, by rw [ht, hN, ha]; exact pm_up_ne e1.symm pm_up_eq⟩
    · have hjn : j < n := Nat.lt_of_not_le (fun w => hk (hb j (by omega) w))
      obtain ⟨q2, q3, q4⟩ := h2 j hjn hk
      exact ⟨q2, by rw [va_up_n y]; exact q3, pm_up_ne (pm_neK q4 h1 (by omega)) (pm_up_ne (pm_neN q4 hq) q4)⟩
  · rw [va_up_n (by omega)]; exact h3 j (by omega)
theorem mi_seed {s' : Int64} {V : List Value} (h : mi_at G0 a A s n G) (hV : V = mi_V A s') : mi_at G0 a A s' n (pm_up G a (120, .inr (9, V))) := by
  obtain ⟨h1, h2, h3, h4⟩ := h
  refine ⟨by rw [hV]; exact pm_up_eq, fun j hj hk => ?_, h3, h4.tr (pm_fr.put h1 (by unfold mo_C; omega))⟩
  obtain ⟨q2, q3, q4⟩ := h2 j hj hk
  exact ⟨q2, q3, pm_up_ne (pm_neK q4 h1 (by omega)) q4⟩
theorem mi_2 {q : Nat} : (mi_V A s).set 2 (.ref q) = mi_V (va_up A 2 (some q)) s := rfl
theorem mi_4 {q : Nat} : (mi_V A s).set 4 (.ref q) = mi_V (va_up A 4 (some q)) s := rfl
theorem mi_12 {q : Nat} : (mi_V A s).set 12 (.ref q) = mi_V (va_up A 12 (some q)) s := rfl
theorem mi_13 {q : Nat} : (mi_V A s).set 13 (.ref q) = mi_V (va_up A 13 (some q)) s := rfl
theorem mi_15 {q : Nat} : (mi_V A s).set 15 (.ref q) = mi_V (va_up A 15 (some q)) s := rfl
theorem mi_16 {q : Nat} : (mi_V A s).set 16 (.ref q) = mi_V (va_up A 16 (some q)) s := rfl
theorem mi_17 {q : Nat} : (mi_V A s).set 17 (.ref q) = mi_V (va_up A 17 (some q)) s := rfl
theorem mi_18 {q : Nat} : (mi_V A s).set 18 (.ref q) = mi_V (va_up A 18 (some q)) s := rfl
theorem mi_19 {q : Nat} : (mi_V A s).set 19 (.ref q) = mi_V (va_up A 19 (some q)) s := rfl
theorem mi_20 {q : Nat} : (mi_V A s).set 20 (.ref q) = mi_V (va_up A 20 (some q)) s := rfl
theorem mi_21 {q : Nat} : (mi_V A s).set 21 (.ref q) = mi_V (va_up A 21 (some q)) s := rfl
theorem mi_22 {q : Nat} : (mi_V A s).set 22 (.ref q) = mi_V (va_up A 22 (some q)) s := rfl
theorem mi_24 {q : Nat} : (mi_V A s).set 24 (.ref q) = mi_V (va_up A 24 (some q)) s := rfl
theorem mi_25 {q : Nat} : (mi_V A s).set 25 (.ref q) = mi_V (va_up A 25 (some q)) s := rfl
theorem mi_26 {q : Nat} : (mi_V A s).set 26 (.ref q) = mi_V (va_up A 26 (some q)) s := rfl
theorem mi_27 {q : Nat} : (mi_V A s).set 27 (.ref q) = mi_V (va_up A 27 (some q)) s := rfl
theorem mi_28 {q : Nat} : (mi_V A s).set 28 (.ref q) = mi_V (va_up A 28 (some q)) s := rfl
theorem mi_29 {q : Nat} : (mi_V A s).set 29 (.ref q) = mi_V (va_up A 29 (some q)) s := rfl
theorem mi_30 {q : Nat} : (mi_V A s).set 30 (.ref q) = mi_V (va_up A 30 (some q)) s := rfl
theorem mi_31 {q : Nat} : (mi_V A s).set 31 (.ref q) = mi_V (va_up A 31 (some q)) s := rfl
theorem mi_32 {q : Nat} : (mi_V A s).set 32 (.ref q) = mi_V (va_up A 32 (some q)) s := rfl
theorem mi_33 {q : Nat} : (mi_V A s).set 33 (.ref q) = mi_V (va_up A 33 (some q)) s := rfl
theorem mi_35 {q : Nat} : (mi_V A s).set 35 (.ref q) = mi_V (va_up A 35 (some q)) s := rfl
theorem mi_37 {q : Nat} : (mi_V A s).set 37 (.ref q) = mi_V (va_up A 37 (some q)) s := rfl
theorem mi_39 {q : Nat} : (mi_V A s).set 39 (.ref q) = mi_V (va_up A 39 (some q)) s := rfl
theorem mi_40 {q : Nat} : (mi_V A s).set 40 (.ref q) = mi_V (va_up A 40 (some q)) s := rfl
theorem mi_41 {q : Nat} : (mi_V A s).set 41 (.ref q) = mi_V (va_up A 41 (some q)) s := rfl
theorem mi_42 {q : Nat} : (mi_V A s).set 42 (.ref q) = mi_V (va_up A 42 (some q)) s := rfl
theorem mi_45 {q : Nat} : (mi_V A s).set 45 (.ref q) = mi_V (va_up A 45 (some q)) s := rfl
theorem mi_46 {q : Nat} : (mi_V A s).set 46 (.ref q) = mi_V (va_up A 46 (some q)) s := rfl
theorem mi_47 {q : Nat} : (mi_V A s).set 47 (.ref q) = mi_V (va_up A 47 (some q)) s := rfl
theorem mi_48 {q : Nat} : (mi_V A s).set 48 (.ref q) = mi_V (va_up A 48 (some q)) s := rfl
theorem mi_50 {q : Nat} : (mi_V A s).set 50 (.ref q) = mi_V (va_up A 50 (some q)) s := rfl
theorem mi_56 {q : Nat} : (mi_V A s).set 56 (.ref q) = mi_V (va_up A 56 (some q)) s := rfl
theorem mi_57 {q : Nat} : (mi_V A s).set 57 (.ref q) = mi_V (va_up A 57 (some q)) s := rfl
theorem mi_58 {q : Nat} : (mi_V A s).set 58 (.ref q) = mi_V (va_up A 58 (some q)) s := rfl
theorem mi_59 {q : Nat} : (mi_V A s).set 59 (.ref q) = mi_V (va_up A 59 (some q)) s := rfl
theorem mi_43 {s' : Int64} : (mi_V A s).set 43 (.long s') = mi_V A s' := rfl
theorem mi_done (h : mi_at G0 a A 1 60 G) : ∃ A', mo_at G0 a A' (fun _ => 0) (va_up (fun _ => 0) 43 1) (fun _ _ => 0) (fun _ _ => 0) G := by
  obtain ⟨h1, h2, h3, h4⟩ := h
  have key : ∀ i, mo_kd i ≠ 9 → va_rf (A i) = .ref ((A i).getD 0) ∧ G ((A i).getD 0) = some (121 + i, .inl (mo_kd i, mo_len i, ar0 (mo_kd i))) := by
    intro i hi
    obtain ⟨q, q1, q2⟩ := h2 i (mo_lt hi) hi
    rw [q1]
    exact ⟨rfl, q2⟩
  refine ⟨fun i => (A i).getD 0, ?_, fun i hi => ?_, fun i hi => ?_, fun i hi => ?_, h4⟩
  · rw [h1]
    have e : mi_V A 1 = mo_V (fun i => (A i).getD 0) (fun _ => 0) (va_up (fun _ => 0) 43 1) := by
      unfold mi_V mo_V
      rw [(key 2 (by decide)).1, (key 4 (by decide)).1, (key 12 (by decide)).1, (key 13 (by decide)).1, (key 15 (by decide)).1, (key 16 (by decide)).1, (key 17 (by decide)).1, (key 18 (by decide)).1, (key 19 (by decide)).1, (key 20 (by decide)).1, (key 21 (by decide)).1, (key 22 (by decide)).1, (key 24 (by decide)).1, (key 25 (by decide)).1, (key 26 (by decide)).1, (key 27 (by decide)).1, (key 28 (by decide)).1, (key 29 (by decide)).1, (key 30 (by decide)).1, (key 31 (by decide)).1, (key 32 (by decide)).1, (key 33 (by decide)).1, (key 35 (by decide)).1, (key 37 (by decide)).1, (key 39 (by decide)).1, (key 40 (by decide)).1, (key 41 (by decide)).1, (key 42 (by decide)).1, (key 45 (by decide)).1, (key 46 (by decide)).1, (key 47 (by decide)).1, (key 48 (by decide)).1, (key 50 (by decide)).1, (key 56 (by decide)).1, (key 57 (by decide)).1, (key 58 (by decide)).1, (key 59 (by decide)).1]
      rfl
    rw [e]
  · have := (key i (by omega)).2
    rw [hi] at this
    exact this
  · have := (key i (by omega)).2
    rw [hi] at this
    exact this
  · have := (key i (by omega)).2
    rw [hi] at this
    exact this
end MI
section MJ
variable {l : Launch} {X : pm_X} {G : pm_G} {a : Nat}
set_option maxHeartbeats 2000000 in
theorem c_Mo_init (hG : G a = some (120, .inr (9, mi_V (fun _ => none) 0))) : cn_M l X m_Mo_init 1 37 70939 [.ref a] G (fun r G' => r = none ∧ pm_fr mo_C G G' ∧ ∃ A', mo_at G a A' (fun _ => 0) (va_up (fun _ => 0) 43 1) (fun _ _ => 0) (fun _ _ => 0) G') := by
  refine cn_in rfl (Nat.le_of_ble_eq_true rfl) ?_
  have hG : mi_at G a (fun _ => none) 0 0 G := ⟨hG, fun i hi => absurd hi (Nat.not_lt_zero _), fun _ _ => rfl, pm_fr.rf⟩
  refine ev_aload_n d_Mo_init_0 rfl rfl ?_
  refine ev_objInit d_Mo_init_1 hw_948 hw_34 hw_35 (Nat.le_of_ble_eq_true rfl) (by omega) ?_
  refine ev_aload_n d_Mo_init_4 rfl rfl ?_
  refine ev_sipush (v := 4000) d_Mo_init_5 (by decide) ?_
  refine ev_newa (123) (t := 0) (N := 4000) (a0 := .inl (fun _ => 0)) d_Mo_init_8 rfl rfl hw_96 (fun _ => rfl) (by decide) (by decide) (by decide) (by omega) (by omega) (fun q hq => ?_)
  refine ev_putF d_Mo_init_10 fo_Mo_7 rfl (fun _ _ _ h => by cases h; rfl) (pm_up_ne (pm_neN hG.1 hq) hG.1) rfl rfl (Nat.le_of_ble_eq_true rfl) ?_
  refine mi_ev (mi_step (i := 2) hG (by decide) (by decide) (by decide) rfl rfl rfl rfl (by decide) hq mi_2) (fun A G hG => ?_)
  refine ev_aload_n d_Mo_init_13 rfl rfl ?_
  refine ev_sipush (v := 4000) d_Mo_init_14 (by decide) ?_
  refine ev_newa (125) (t := 0) (N := 4000) (a0 := .inl (fun _ => 0)) d_Mo_init_17 rfl rfl hw_96 (fun _ => rfl) (by decide) (by decide) (by decide) (by omega) (by omega) (fun q hq => ?_)
  refine ev_putF d_Mo_init_19 fo_Mo_13 rfl (fun _ _ _ h => by cases h; rfl) (pm_up_ne (pm_neN hG.1 hq) hG.1) rfl rfl (Nat.le_of_ble_eq_true rfl) ?_
  refine mi_ev (mi_step (i := 4) hG (by decide) (by decide) (by decide) rfl rfl rfl rfl (by decide) hq mi_4) (fun A G hG => ?_)
  refine ev_aload_n d_Mo_init_22 rfl rfl ?_
  refine ev_bipush (v := 21) d_Mo_init_23 (by decide) ?_
  refine ev_newa (133) (t := 0) (N := 21) (a0 := .inl (fun _ => 0)) d_Mo_init_25 rfl rfl hw_96 (fun _ => rfl) (by decide) (by decide) (by decide) (by omega) (by omega) (fun q hq => ?_)
  refine ev_putF d_Mo_init_27 fo_Mo_16 rfl (fun _ _ _ h => by cases h; rfl) (pm_up_ne (pm_neN hG.1 hq) hG.1) rfl rfl (Nat.le_of_ble_eq_true rfl) ?_
  refine mi_ev (mi_step (i := 12) hG (by decide) (by decide) (by decide) rfl rfl rfl rfl (by decide) hq mi_12) (fun A G hG => ?_)
  refine ev_aload_n d_Mo_init_30 rfl rfl ?_
  refine ev_bipush (v := 21) d_Mo_init_31 (by decide) ?_
  refine ev_newa (134) (t := 0) (N := 21) (a0 := .inl (fun _ => 0)) d_Mo_init_33 rfl rfl hw_96 (fun _ => rfl) (by decide) (by decide) (by decide) (by omega) (by omega) (fun q hq => ?_)
  refine ev_putF d_Mo_init_35 fo_Mo_19 rfl (fun _ _ _ h => by cases h; rfl) (pm_up_ne (pm_neN hG.1 hq) hG.1) rfl rfl (Nat.le_of_ble_eq_true rfl) ?_
  refine mi_ev (mi_step (i := 13) hG (by decide) (by decide) (by decide) rfl rfl rfl rfl (by decide) hq mi_13) (fun A G hG => ?_)
  refine ev_aload_n d_Mo_init_38 rfl rfl ?_
  refine ev_bipush (v := 13) d_Mo_init_39 (by decide) ?_
  refine ev_newa (136) (t := 0) (N := 13) (a0 := .inl (fun _ => 0)) d_Mo_init_41 rfl rfl hw_96 (fun _ => rfl) (by decide) (by decide) (by decide) (by omega) (by omega) (fun q hq => ?_)
  refine ev_putF d_Mo_init_43 fo_Mo_22 rfl (fun _ _ _ h => by cases h; rfl) (pm_up_ne (pm_neN hG.1 hq) hG.1) rfl rfl (Nat.le_of_ble_eq_true rfl) ?_
  refine mi_ev (mi_step (i := 15) hG (by decide) (by decide) (by decide) rfl rfl rfl rfl (by decide) hq mi_15) (fun A G hG => ?_)
  refine ev_aload_n d_Mo_init_46 rfl rfl ?_
  refine ev_bipush (v := 13) d_Mo_init_47 (by decide) ?_
  refine ev_newa (137) (t := 0) (N := 13) (a0 := .inl (fun _ => 0)) d_Mo_init_49 rfl rfl hw_96 (fun _ => rfl) (by decide) (by decide) (by decide) (by omega) (by omega) (fun q hq => ?_)
  refine ev_putF d_Mo_init_51 fo_Mo_25 rfl (fun _ _ _ h => by cases h; rfl) (pm_up_ne (pm_neN hG.1 hq) hG.1) rfl rfl (Nat.le_of_ble_eq_true rfl) ?_
  refine mi_ev (mi_step (i := 16) hG (by decide) (by decide) (by decide) rfl rfl rfl rfl (by decide) hq mi_16) (fun A G hG => ?_)
  refine ev_aload_n d_Mo_init_54 rfl rfl ?_
  refine ev_bipush (v := 14) d_Mo_init_55 (by decide) ?_
  refine ev_newa (138) (t := 0) (N := 14) (a0 := .inl (fun _ => 0)) d_Mo_init_57 rfl rfl hw_96 (fun _ => rfl) (by decide) (by decide) (by decide) (by omega) (by omega) (fun q hq => ?_)
  refine ev_putF d_Mo_init_59 fo_Mo_28 rfl (fun _ _ _ h => by cases h; rfl) (pm_up_ne (pm_neN hG.1 hq) hG.1) rfl rfl (Nat.le_of_ble_eq_true rfl) ?_
  refine mi_ev (mi_step (i := 17) hG (by decide) (by decide) (by decide) rfl rfl rfl rfl (by decide) hq mi_17) (fun A G hG => ?_)
  refine ev_aload_n d_Mo_init_62 rfl rfl ?_
  refine ev_bipush (v := 13) d_Mo_init_63 (by decide) ?_
  refine ev_newa (139) (t := 0) (N := 13) (a0 := .inl (fun _ => 0)) d_Mo_init_65 rfl rfl hw_96 (fun _ => rfl) (by decide) (by decide) (by decide) (by omega) (by omega) (fun q hq => ?_)
  refine ev_putF d_Mo_init_67 fo_Mo_31 rfl (fun _ _ _ h => by cases h; rfl) (pm_up_ne (pm_neN hG.1 hq) hG.1) rfl rfl (Nat.le_of_ble_eq_true rfl) ?_
  refine mi_ev (mi_step (i := 18) hG (by decide) (by decide) (by decide) rfl rfl rfl rfl (by decide) hq mi_18) (fun A G hG => ?_)
  refine ev_aload_n d_Mo_init_70 rfl rfl ?_
  refine ev_bipush (v := 13) d_Mo_init_71 (by decide) ?_
  refine ev_newa (140) (t := 0) (N := 13) (a0 := .inl (fun _ => 0)) d_Mo_init_73 rfl rfl hw_96 (fun _ => rfl) (by decide) (by decide) (by decide) (by omega) (by omega) (fun q hq => ?_)
  refine ev_putF d_Mo_init_75 fo_Mo_34 rfl (fun _ _ _ h => by cases h; rfl) (pm_up_ne (pm_neN hG.1 hq) hG.1) rfl rfl (Nat.le_of_ble_eq_true rfl) ?_
  refine mi_ev (mi_step (i := 19) hG (by decide) (by decide) (by decide) rfl rfl rfl rfl (by decide) hq mi_19) (fun A G hG => ?_)
  refine ev_aload_n d_Mo_init_78 rfl rfl ?_
  refine ev_bipush (v := 13) d_Mo_init_79 (by decide) ?_
  refine ev_newa (141) (t := 0) (N := 13) (a0 := .inl (fun _ => 0)) d_Mo_init_81 rfl rfl hw_96 (fun _ => rfl) (by decide) (by decide) (by decide) (by omega) (by omega) (fun q hq => ?_)
  refine ev_putF d_Mo_init_83 fo_Mo_37 rfl (fun _ _ _ h => by cases h; rfl) (pm_up_ne (pm_neN hG.1 hq) hG.1) rfl rfl (Nat.le_of_ble_eq_true rfl) ?_
  refine mi_ev (mi_step (i := 20) hG (by decide) (by decide) (by decide) rfl rfl rfl rfl (by decide) hq mi_20) (fun A G hG => ?_)
  refine ev_aload_n d_Mo_init_86 rfl rfl ?_
  refine ev_bipush (v := 13) d_Mo_init_87 (by decide) ?_
  refine ev_newa (142) (t := 0) (N := 13) (a0 := .inl (fun _ => 0)) d_Mo_init_89 rfl rfl hw_96 (fun _ => rfl) (by decide) (by decide) (by decide) (by omega) (by omega) (fun q hq => ?_)
  refine ev_putF d_Mo_init_91 fo_Mo_40 rfl (fun _ _ _ h => by cases h; rfl) (pm_up_ne (pm_neN hG.1 hq) hG.1) rfl rfl (Nat.le_of_ble_eq_true rfl) ?_
  refine mi_ev (mi_step (i := 21) hG (by decide) (by decide) (by decide) rfl rfl rfl rfl (by decide) hq mi_21) (fun A G hG => ?_)
  refine ev_aload_n d_Mo_init_94 rfl rfl ?_
  refine ev_bipush (v := 13) d_Mo_init_95 (by decide) ?_
  refine ev_newa (143) (t := 1) (N := 13) (a0 := .inr (.inl (fun _ => 0))) d_Mo_init_97 rfl rfl hw_69 (fun _ => rfl) (by decide) (by decide) (by decide) (by omega) (by omega) (fun q hq => ?_)
  refine ev_putF d_Mo_init_99 fo_Mo_43 rfl (fun _ _ _ h => by cases h; rfl) (pm_up_ne (pm_neN hG.1 hq) hG.1) rfl rfl (Nat.le_of_ble_eq_true rfl) ?_
  refine mi_ev (mi_step (i := 22) hG (by decide) (by decide) (by decide) rfl rfl rfl rfl (by decide) hq mi_22) (fun A G hG => ?_)
  refine ev_aload_n d_Mo_init_102 rfl rfl ?_
  refine ev_sipush (v := 1200) d_Mo_init_103 (by decide) ?_
  refine ev_newa (145) (t := 0) (N := 1200) (a0 := .inl (fun _ => 0)) d_Mo_init_106 rfl rfl hw_96 (fun _ => rfl) (by decide) (by decide) (by decide) (by omega) (by omega) (fun q hq => ?_)
  refine ev_putF d_Mo_init_108 fo_Mo_47 rfl (fun _ _ _ h => by cases h; rfl) (pm_up_ne (pm_neN hG.1 hq) hG.1) rfl rfl (Nat.le_of_ble_eq_true rfl) ?_
  refine mi_ev (mi_step (i := 24) hG (by decide) (by decide) (by decide) rfl rfl rfl rfl (by decide) hq mi_24) (fun A G hG => ?_)
  refine ev_aload_n d_Mo_init_111 rfl rfl ?_
  refine ev_sipush (v := 1200) d_Mo_init_112 (by decide) ?_
  refine ev_newa (146) (t := 0) (N := 1200) (a0 := .inl (fun _ => 0)) d_Mo_init_115 rfl rfl hw_96 (fun _ => rfl) (by decide) (by decide) (by decide) (by omega) (by omega) (fun q hq => ?_)
  refine ev_putF d_Mo_init_117 fo_Mo_50 rfl (fun _ _ _ h => by cases h; rfl) (pm_up_ne (pm_neN hG.1 hq) hG.1) rfl rfl (Nat.le_of_ble_eq_true rfl) ?_
  refine mi_ev (mi_step (i := 25) hG (by decide) (by decide) (by decide) rfl rfl rfl rfl (by decide) hq mi_25) (fun A G hG => ?_)
  refine ev_aload_n d_Mo_init_120 rfl rfl ?_
  refine ev_sipush (v := 1200) d_Mo_init_121 (by decide) ?_
  refine ev_newa (147) (t := 0) (N := 1200) (a0 := .inl (fun _ => 0)) d_Mo_init_124 rfl rfl hw_96 (fun _ => rfl) (by decide) (by decide) (by decide) (by omega) (by omega) (fun q hq => ?_)
  refine ev_putF d_Mo_init_126 fo_Mo_53 rfl (fun _ _ _ h => by cases h; rfl) (pm_up_ne (pm_neN hG.1 hq) hG.1) rfl rfl (Nat.le_of_ble_eq_true rfl) ?_
  refine mi_ev (mi_step (i := 26) hG (by decide) (by decide) (by decide) rfl rfl rfl rfl (by decide) hq mi_26) (fun A G hG => ?_)
  refine ev_aload_n d_Mo_init_129 rfl rfl ?_
  refine ev_sipush (v := 1200) d_Mo_init_130 (by decide) ?_
  refine ev_newa (148) (t := 1) (N := 1200) (a0 := .inr (.inl (fun _ => 0))) d_Mo_init_133 rfl rfl hw_69 (fun _ => rfl) (by decide) (by decide) (by decide) (by omega) (by omega) (fun q hq => ?_)
  refine ev_putF d_Mo_init_135 fo_Mo_56 rfl (fun _ _ _ h => by cases h; rfl) (pm_up_ne (pm_neN hG.1 hq) hG.1) rfl rfl (Nat.le_of_ble_eq_true rfl) ?_
  refine mi_ev (mi_step (i := 27) hG (by decide) (by decide) (by decide) rfl rfl rfl rfl (by decide) hq mi_27) (fun A G hG => ?_)
  refine ev_aload_n d_Mo_init_138 rfl rfl ?_
  refine ev_sipush (v := 1200) d_Mo_init_139 (by decide) ?_
  refine ev_newa (149) (t := 1) (N := 1200) (a0 := .inr (.inl (fun _ => 0))) d_Mo_init_142 rfl rfl hw_69 (fun _ => rfl) (by decide) (by decide) (by decide) (by omega) (by omega) (fun q hq => ?_)
  refine ev_putF d_Mo_init_144 fo_Mo_59 rfl (fun _ _ _ h => by cases h; rfl) (pm_up_ne (pm_neN hG.1 hq) hG.1) rfl rfl (Nat.le_of_ble_eq_true rfl) ?_
  refine mi_ev (mi_step (i := 28) hG (by decide) (by decide) (by decide) rfl rfl rfl rfl (by decide) hq mi_28) (fun A G hG => ?_)
  refine ev_aload_n d_Mo_init_147 rfl rfl ?_
  refine ev_sipush (v := 1200) d_Mo_init_148 (by decide) ?_
  refine ev_newa (150) (t := 0) (N := 1200) (a0 := .inl (fun _ => 0)) d_Mo_init_151 rfl rfl hw_96 (fun _ => rfl) (by decide) (by decide) (by decide) (by omega) (by omega) (fun q hq => ?_)
  refine ev_putF d_Mo_init_153 fo_Mo_62 rfl (fun _ _ _ h => by cases h; rfl) (pm_up_ne (pm_neN hG.1 hq) hG.1) rfl rfl (Nat.le_of_ble_eq_true rfl) ?_
  refine mi_ev (mi_step (i := 29) hG (by decide) (by decide) (by decide) rfl rfl rfl rfl (by decide) hq mi_29) (fun A G hG => ?_)
  refine ev_aload_n d_Mo_init_156 rfl rfl ?_
  refine ev_sipush (v := 1200) d_Mo_init_157 (by decide) ?_
  refine ev_newa (151) (t := 0) (N := 1200) (a0 := .inl (fun _ => 0)) d_Mo_init_160 rfl rfl hw_96 (fun _ => rfl) (by decide) (by decide) (by decide) (by omega) (by omega) (fun q hq => ?_)
  refine ev_putF d_Mo_init_162 fo_Mo_65 rfl (fun _ _ _ h => by cases h; rfl) (pm_up_ne (pm_neN hG.1 hq) hG.1) rfl rfl (Nat.le_of_ble_eq_true rfl) ?_
  refine mi_ev (mi_step (i := 30) hG (by decide) (by decide) (by decide) rfl rfl rfl rfl (by decide) hq mi_30) (fun A G hG => ?_)
  refine ev_aload_n d_Mo_init_165 rfl rfl ?_
  refine ev_sipush (v := 1200) d_Mo_init_166 (by decide) ?_
  refine ev_newa (152) (t := 0) (N := 1200) (a0 := .inl (fun _ => 0)) d_Mo_init_169 rfl rfl hw_96 (fun _ => rfl) (by decide) (by decide) (by decide) (by omega) (by omega) (fun q hq => ?_)
  refine ev_putF d_Mo_init_171 fo_Mo_68 rfl (fun _ _ _ h => by cases h; rfl) (pm_up_ne (pm_neN hG.1 hq) hG.1) rfl rfl (Nat.le_of_ble_eq_true rfl) ?_
  refine mi_ev (mi_step (i := 31) hG (by decide) (by decide) (by decide) rfl rfl rfl rfl (by decide) hq mi_31) (fun A G hG => ?_)
  refine ev_aload_n d_Mo_init_174 rfl rfl ?_
  refine ev_sipush (v := 1200) d_Mo_init_175 (by decide) ?_
  refine ev_newa (153) (t := 0) (N := 1200) (a0 := .inl (fun _ => 0)) d_Mo_init_178 rfl rfl hw_96 (fun _ => rfl) (by decide) (by decide) (by decide) (by omega) (by omega) (fun q hq => ?_)
  refine ev_putF d_Mo_init_180 fo_Mo_71 rfl (fun _ _ _ h => by cases h; rfl) (pm_up_ne (pm_neN hG.1 hq) hG.1) rfl rfl (Nat.le_of_ble_eq_true rfl) ?_
  refine mi_ev (mi_step (i := 32) hG (by decide) (by decide) (by decide) rfl rfl rfl rfl (by decide) hq mi_32) (fun A G hG => ?_)
  refine ev_aload_n d_Mo_init_183 rfl rfl ?_
  refine ev_sipush (v := 1200) d_Mo_init_184 (by decide) ?_
  refine ev_newa (154) (t := 3) (N := 1200) (a0 := .inl (fun _ => 0)) d_Mo_init_187 rfl rfl hw_1130 (fun _ => rfl) (by decide) (by decide) (by decide) (by omega) (by omega) (fun q hq => ?_)
  refine ev_putF d_Mo_init_189 fo_Mo_74 rfl (fun _ _ _ h => by cases h; rfl) (pm_up_ne (pm_neN hG.1 hq) hG.1) rfl rfl (Nat.le_of_ble_eq_true rfl) ?_
  refine mi_ev (mi_step (i := 33) hG (by decide) (by decide) (by decide) rfl rfl rfl rfl (by decide) hq mi_33) (fun A G hG => ?_)
  refine ev_aload_n d_Mo_init_192 rfl rfl ?_
  refine ev_sipush (v := 2000) d_Mo_init_193 (by decide) ?_
  refine ev_newa (156) (t := 1) (N := 2000) (a0 := .inr (.inl (fun _ => 0))) d_Mo_init_196 rfl rfl hw_69 (fun _ => rfl) (by decide) (by decide) (by decide) (by omega) (by omega) (fun q hq => ?_)
  refine ev_putF d_Mo_init_198 fo_Mo_78 rfl (fun _ _ _ h => by cases h; rfl) (pm_up_ne (pm_neN hG.1 hq) hG.1) rfl rfl (Nat.le_of_ble_eq_true rfl) ?_
  refine mi_ev (mi_step (i := 35) hG (by decide) (by decide) (by decide) rfl rfl rfl rfl (by decide) hq mi_35) (fun A G hG => ?_)
  refine ev_aload_n d_Mo_init_201 rfl rfl ?_
  refine ev_bipush (v := 12) d_Mo_init_202 (by decide) ?_
  refine ev_newa (158) (t := 0) (N := 12) (a0 := .inl (fun _ => 0)) d_Mo_init_204 rfl rfl hw_96 (fun _ => rfl) (by decide) (by decide) (by decide) (by omega) (by omega) (fun q hq => ?_)
  refine ev_putF d_Mo_init_206 fo_Mo_81 rfl (fun _ _ _ h => by cases h; rfl) (pm_up_ne (pm_neN hG.1 hq) hG.1) rfl rfl (Nat.le_of_ble_eq_true rfl) ?_
  refine mi_ev (mi_step (i := 37) hG (by decide) (by decide) (by decide) rfl rfl rfl rfl (by decide) hq mi_37) (fun A G hG => ?_)
  refine ev_aload_n d_Mo_init_209 rfl rfl ?_
  refine ev_sipush (v := 200) d_Mo_init_210 (by decide) ?_
  refine ev_newa (160) (t := 0) (N := 200) (a0 := .inl (fun _ => 0)) d_Mo_init_213 rfl rfl hw_96 (fun _ => rfl) (by decide) (by decide) (by decide) (by omega) (by omega) (fun q hq => ?_)
  refine ev_putF d_Mo_init_215 fo_Mo_84 rfl (fun _ _ _ h => by cases h; rfl) (pm_up_ne (pm_neN hG.1 hq) hG.1) rfl rfl (Nat.le_of_ble_eq_true rfl) ?_
  refine mi_ev (mi_step (i := 39) hG (by decide) (by decide) (by decide) rfl rfl rfl rfl (by decide) hq mi_39) (fun A G hG => ?_)
  refine ev_aload_n d_Mo_init_218 rfl rfl ?_
  refine ev_sipush (v := 200) d_Mo_init_219 (by decide) ?_
  refine ev_newa (161) (t := 1) (N := 200) (a0 := .inr (.inl (fun _ => 0))) d_Mo_init_222 rfl rfl hw_69 (fun _ => rfl) (by decide) (by decide) (by decide) (by omega) (by omega) (fun q hq => ?_)
  refine ev_putF d_Mo_init_224 fo_Mo_87 rfl (fun _ _ _ h => by cases h; rfl) (pm_up_ne (pm_neN hG.1 hq) hG.1) rfl rfl (Nat.le_of_ble_eq_true rfl) ?_
  refine mi_ev (mi_step (i := 40) hG (by decide) (by decide) (by decide) rfl rfl rfl rfl (by decide) hq mi_40) (fun A G hG => ?_)
  refine ev_aload_n d_Mo_init_227 rfl rfl ?_
  refine ev_sipush (v := 200) d_Mo_init_228 (by decide) ?_
  refine ev_newa (162) (t := 1) (N := 200) (a0 := .inr (.inl (fun _ => 0))) d_Mo_init_231 rfl rfl hw_69 (fun _ => rfl) (by decide) (by decide) (by decide) (by omega) (by omega) (fun q hq => ?_)
  refine ev_putF d_Mo_init_233 fo_Mo_90 rfl (fun _ _ _ h => by cases h; rfl) (pm_up_ne (pm_neN hG.1 hq) hG.1) rfl rfl (Nat.le_of_ble_eq_true rfl) ?_
  refine mi_ev (mi_step (i := 41) hG (by decide) (by decide) (by decide) rfl rfl rfl rfl (by decide) hq mi_41) (fun A G hG => ?_)
  refine ev_aload_n d_Mo_init_236 rfl rfl ?_
  refine ev_bipush (v := 9) d_Mo_init_237 (by decide) ?_
  refine ev_newa (163) (t := 3) (N := 9) (a0 := .inl (fun _ => 0)) d_Mo_init_239 rfl rfl hw_1130 (fun _ => rfl) (by decide) (by decide) (by decide) (by omega) (by omega) (fun q hq => ?_)
  refine ev_putF d_Mo_init_241 fo_Mo_93 rfl (fun _ _ _ h => by cases h; rfl) (pm_up_ne (pm_neN hG.1 hq) hG.1) rfl rfl (Nat.le_of_ble_eq_true rfl) ?_
  refine mi_ev (mi_step (i := 42) hG (by decide) (by decide) (by decide) rfl rfl rfl rfl (by decide) hq mi_42) (fun A G hG => ?_)
  refine ev_aload_n d_Mo_init_244 rfl rfl ?_
  refine ev_lconst (v := 1) d_Mo_init_245 (by decide) ?_
  refine ev_put d_Mo_init_246 fo_Mo_96 hG.1 rfl rfl (Nat.le_of_ble_eq_true rfl) ?_
  refine mi_ev (mi_seed hG mi_43) (fun A G hG => ?_)
  refine ev_aload_n d_Mo_init_249 rfl rfl ?_
  refine ev_bipush (v := 8) d_Mo_init_250 (by decide) ?_
  refine ev_newa (166) (t := 0) (N := 8) (a0 := .inl (fun _ => 0)) d_Mo_init_252 rfl rfl hw_96 (fun _ => rfl) (by decide) (by decide) (by decide) (by omega) (by omega) (fun q hq => ?_)
  refine ev_putF d_Mo_init_254 fo_Mo_100 rfl (fun _ _ _ h => by cases h; rfl) (pm_up_ne (pm_neN hG.1 hq) hG.1) rfl rfl (Nat.le_of_ble_eq_true rfl) ?_
  refine mi_ev (mi_step (i := 45) hG (by decide) (by decide) (by decide) rfl rfl rfl rfl (by decide) hq mi_45) (fun A G hG => ?_)
  refine ev_aload_n d_Mo_init_257 rfl rfl ?_
  refine ev_sipush (v := 16000) d_Mo_init_258 (by decide) ?_
  refine ev_newa (167) (t := 0) (N := 16000) (a0 := .inl (fun _ => 0)) d_Mo_init_261 rfl rfl hw_96 (fun _ => rfl) (by decide) (by decide) (by decide) (by omega) (by omega) (fun q hq => ?_)
  refine ev_putF d_Mo_init_263 fo_Mo_103 rfl (fun _ _ _ h => by cases h; rfl) (pm_up_ne (pm_neN hG.1 hq) hG.1) rfl rfl (Nat.le_of_ble_eq_true rfl) ?_
  refine mi_ev (mi_step (i := 46) hG (by decide) (by decide) (by decide) rfl rfl rfl rfl (by decide) hq mi_46) (fun A G hG => ?_)
  refine ev_aload_n d_Mo_init_266 rfl rfl ?_
  refine ev_sipush (v := 16000) d_Mo_init_267 (by decide) ?_
  refine ev_newa (168) (t := 1) (N := 16000) (a0 := .inr (.inl (fun _ => 0))) d_Mo_init_270 rfl rfl hw_69 (fun _ => rfl) (by decide) (by decide) (by decide) (by omega) (by omega) (fun q hq => ?_)
  refine ev_putF d_Mo_init_272 fo_Mo_106 rfl (fun _ _ _ h => by cases h; rfl) (pm_up_ne (pm_neN hG.1 hq) hG.1) rfl rfl (Nat.le_of_ble_eq_true rfl) ?_
  refine mi_ev (mi_step (i := 47) hG (by decide) (by decide) (by decide) rfl rfl rfl rfl (by decide) hq mi_47) (fun A G hG => ?_)
  refine ev_aload_n d_Mo_init_275 rfl rfl ?_
  refine ev_sipush (v := 16000) d_Mo_init_276 (by decide) ?_
  refine ev_newa (169) (t := 1) (N := 16000) (a0 := .inr (.inl (fun _ => 0))) d_Mo_init_279 rfl rfl hw_69 (fun _ => rfl) (by decide) (by decide) (by decide) (by omega) (by omega) (fun q hq => ?_)
  refine ev_putF d_Mo_init_281 fo_Mo_109 rfl (fun _ _ _ h => by cases h; rfl) (pm_up_ne (pm_neN hG.1 hq) hG.1) rfl rfl (Nat.le_of_ble_eq_true rfl) ?_
  refine mi_ev (mi_step (i := 48) hG (by decide) (by decide) (by decide) rfl rfl rfl rfl (by decide) hq mi_48) (fun A G hG => ?_)
  refine ev_aload_n d_Mo_init_284 rfl rfl ?_
  refine ev_bipush (v := 100) d_Mo_init_285 (by decide) ?_
  refine ev_newa (171) (t := 0) (N := 100) (a0 := .inl (fun _ => 0)) d_Mo_init_287 rfl rfl hw_96 (fun _ => rfl) (by decide) (by decide) (by decide) (by omega) (by omega) (fun q hq => ?_)
  refine ev_putF d_Mo_init_289 fo_Mo_112 rfl (fun _ _ _ h => by cases h; rfl) (pm_up_ne (pm_neN hG.1 hq) hG.1) rfl rfl (Nat.le_of_ble_eq_true rfl) ?_
  refine mi_ev (mi_step (i := 50) hG (by decide) (by decide) (by decide) rfl rfl rfl rfl (by decide) hq mi_50) (fun A G hG => ?_)
  refine ev_aload_n d_Mo_init_292 rfl rfl ?_
  refine ev_bipush (v := 9) d_Mo_init_293 (by decide) ?_
  refine ev_newa (177) (t := 3) (N := 9) (a0 := .inl (fun _ => 0)) d_Mo_init_295 rfl rfl hw_1130 (fun _ => rfl) (by decide) (by decide) (by decide) (by omega) (by omega) (fun q hq => ?_)
  refine ev_putF d_Mo_init_297 fo_Mo_115 rfl (fun _ _ _ h => by cases h; rfl) (pm_up_ne (pm_neN hG.1 hq) hG.1) rfl rfl (Nat.le_of_ble_eq_true rfl) ?_
  refine mi_ev (mi_step (i := 56) hG (by decide) (by decide) (by decide) rfl rfl rfl rfl (by decide) hq mi_56) (fun A G hG => ?_)
  refine ev_aload_n d_Mo_init_300 rfl rfl ?_
  refine ev_bipush (v := 21) d_Mo_init_301 (by decide) ?_
  refine ev_newa (178) (t := 1) (N := 21) (a0 := .inr (.inl (fun _ => 0))) d_Mo_init_303 rfl rfl hw_69 (fun _ => rfl) (by decide) (by decide) (by decide) (by omega) (by omega) (fun q hq => ?_)
  refine ev_putF d_Mo_init_305 fo_Mo_118 rfl (fun _ _ _ h => by cases h; rfl) (pm_up_ne (pm_neN hG.1 hq) hG.1) rfl rfl (Nat.le_of_ble_eq_true rfl) ?_
  refine mi_ev (mi_step (i := 57) hG (by decide) (by decide) (by decide) rfl rfl rfl rfl (by decide) hq mi_57) (fun A G hG => ?_)
  refine ev_aload_n d_Mo_init_308 rfl rfl ?_
  refine ev_bipush (v := 21) d_Mo_init_309 (by decide) ?_
  refine ev_newa (179) (t := 1) (N := 21) (a0 := .inr (.inl (fun _ => 0))) d_Mo_init_311 rfl rfl hw_69 (fun _ => rfl) (by decide) (by decide) (by decide) (by omega) (by omega) (fun q hq => ?_)
  refine ev_putF d_Mo_init_313 fo_Mo_121 rfl (fun _ _ _ h => by cases h; rfl) (pm_up_ne (pm_neN hG.1 hq) hG.1) rfl rfl (Nat.le_of_ble_eq_true rfl) ?_
  refine mi_ev (mi_step (i := 58) hG (by decide) (by decide) (by decide) rfl rfl rfl rfl (by decide) hq mi_58) (fun A G hG => ?_)
  refine ev_aload_n d_Mo_init_316 rfl rfl ?_
  refine ev_bipush (v := 12) d_Mo_init_317 (by decide) ?_
  refine ev_newa (180) (t := 0) (N := 12) (a0 := .inl (fun _ => 0)) d_Mo_init_319 rfl rfl hw_96 (fun _ => rfl) (by decide) (by decide) (by decide) (by omega) (by omega) (fun q hq => ?_)
  refine ev_putF d_Mo_init_321 fo_Mo_124 rfl (fun _ _ _ h => by cases h; rfl) (pm_up_ne (pm_neN hG.1 hq) hG.1) rfl rfl (Nat.le_of_ble_eq_true rfl) ?_
  refine mi_ev (mi_step (i := 59) hG (by decide) (by decide) (by decide) rfl rfl rfl rfl (by decide) hq mi_59) (fun A G hG => ?_)
  exact ev_vret d_Mo_init_324 rfl ⟨rfl, hG.2.2.2, mi_done hG⟩
end MJ
