/-! THE START: what holds of the world at the law's entry -/
theorem room_le {s : State} {pl : Platform} (h : s.hasRoom pl room_1 = true) : s.hasRoom pl (pm_R 40 601024 7293034) = true := by
  unfold State.hasRoom at h ⊢
  simp only [Bool.and_eq_true, decide_eq_true_eq] at h ⊢
  have e1 : room_1.frames = 2048 := rfl
  have e2 : room_1.cells = 601024 := rfl
  have e3 : room_1.slots = 7293034 := rfl
  have e4 : room_1.locals = 84000 := rfl
  have g1 : (pm_R 40 601024 7293034).frames = 40 := rfl
  have g2 : (pm_R 40 601024 7293034).cells = 601024 := rfl
  have g3 : (pm_R 40 601024 7293034).slots = 7293034 := rfl
  have g4 : (pm_R 40 601024 7293034).locals = 2560 := rfl
  rw [e1, e2, e3, e4] at h
  rw [g1, g2, g3, g4]
  obtain ⟨⟨⟨⟨h1, h2, h3, h4, h5, h6⟩, h7⟩, h8⟩, h9⟩ := h
  exact ⟨⟨⟨⟨by omega, by omega, by omega, by omega, by omega, h6⟩, h7⟩, h8⟩, h9⟩
theorem st_room {p : Program} {l : Launch} {e : Env} {s : State} {m : MethodId} {args : Array Value} {below : List Frame} {meth : Method} {c : Code} {T : State} {locs : List Loc} {k n : Nat} (h : Stand p l e room_1 s m args below meth c T locs k n) : Stand p l e (pm_R 40 601024 7293034) s m args below meth c T locs k n :=
  ⟨h.admits, h.cas, h.clock, h.frames, room_le h.room, h.hears, h.method, h.code, h.here, h.tail, h.warmed, h.limits, h.bytes, h.same⟩
section WS
variable {s : State} {args : Array Value}
theorem kn_of {own : String} {idx ci N : Nat} {fs : List Value} (hts : ∀ w ∈ pm_WS, w.before args s = true) (h : pm_nok own idx ci N fs) : ∃ d : ClassId × (Nat → Nat), ∀ q, classes[ci]? = some q → u_Kn s q.1 q.2.1 q.2.2 d.1 d.2 := by
  obtain ⟨C, T, ty0, h1, h2, -, -, -, h6, -⟩ := h
  obtain ⟨cC, iS, hk⟩ := u_known (C := C) (T := T) (N := N) (n := N) hts h2 (hts _ h6)
  refine ⟨(cC, iS), fun q hq => ?_⟩
  rw [h1] at hq
  cases hq
  exact hk
theorem kn_all (hts : ∀ w ∈ pm_WS, w.before args s = true) : ∀ ci : Nat, ∃ d : ClassId × (Nat → Nat), ∀ q, classes[ci]? = some q → u_Kn s q.1 q.2.1 q.2.2 d.1 d.2
  | 0 => kn_of hts no_Law_8
  | 1 => kn_of hts no_TT_17
  | 2 => kn_of hts no_TT_27
  | 3 => kn_of hts no_TT_57
  | 4 => kn_of hts no_TT_114
  | 5 => kn_of hts no_Plan_57
  | 6 => kn_of hts no_TT_123
  | 7 => kn_of hts no_TT_41
  | 8 => kn_of hts no_Rd_19
  | 9 => kn_of hts no_Law_16
  | 10 => kn_of hts no_Plan_15
  | n + 11 => ⟨(0, fun _ => 0), fun q hq => by
      have h0 : classes[n + 11]? = none := List.getElem?_eq_none (by show 11 ≤ n + 11; omega)
      rw [h0] at hq
      cases hq⟩
theorem ar_prim {ty : FieldType} (h : (Cond.arrayClass ty).before args s = true) : ∃ cA : ClassId, ArrOfT s cA ty ∧ s.vm.findClass ("[" ++ ty.toString) = some cA := by
  obtain ⟨cA, kA, comp, h1, h2, h3⟩ := Cond.arrayClass_spec h
  exact ⟨cA, fun n z => ⟨fun k h => (by cases h), kA, h2, comp, h3⟩, h1⟩
theorem ar_obj {C : String} (h : (Cond.arrayOver (.object C)).before args s = true) : ∃ cA : ClassId, ArrOfT s cA (.object C) ∧ va_RA s cA (.object C) := by
  obtain ⟨comp, cA, kA, h1, h2, h3, h4, h5⟩ := Cond.arrayOver_spec h
  exact ⟨cA, fun n z => ⟨fun k h => (by cases h), kA, h3, comp, h4⟩, kA, comp, h3, h4, h1, h5⟩
theorem ar_all (hts : ∀ w ∈ lw_tbl, w.before args s = true) : ∀ t : Nat, ∃ cA : ClassId, ∀ ty, pm_kt[t]? = some ty → ArrOfT s cA ty ∧ va_RA s cA ty
  | 0 => by
    obtain ⟨cA, h⟩ := ar_prim (ty := .int) (hts _ (by decide +kernel))
    exact ⟨cA, fun ty hq => by cases hq; exact h⟩
  | 1 => by
    obtain ⟨cA, h⟩ := ar_prim (ty := .long) (hts _ (by decide +kernel))
    exact ⟨cA, fun ty hq => by cases hq; exact h⟩
  | 2 => by
    obtain ⟨cA, h⟩ := ar_prim (ty := .byte) (hts _ (by decide +kernel))
    exact ⟨cA, fun ty hq => by cases hq; exact h⟩
  | 3 => by
    obtain ⟨cA, h⟩ := ar_prim (ty := .boolean) (hts _ (by decide +kernel))
    exact ⟨cA, fun ty hq => by cases hq; exact h⟩
  | 4 => by
    obtain ⟨cA, h⟩ := ar_obj (C := "TestText$Trace") (hts _ (by decide +kernel))
    exact ⟨cA, fun ty hq => by cases hq; exact h⟩
  | 5 => by
    obtain ⟨cA, h⟩ := ar_obj (C := "java/lang/Object") (hts _ (by decide +kernel))
    exact ⟨cA, fun ty hq => by cases hq; exact h⟩
  | n + 6 => ⟨0, fun q hq => by
      have h0 : pm_kt[n + 6]? = none := List.getElem?_eq_none (by show 6 ≤ n + 6; omega)
      rw [h0] at hq
      cases hq⟩
theorem ls_of {n d : String} {A : Nat → Prop} (hl : (Cond.laysStatic "java/lang/Throwable" n d).before args s = true) (hr : (Cond.isRef (.static "java/lang/Throwable" n d)).before args s = true) (hA : ∀ a : Nat, a < s.heap.size → ¬ A a) : pm_Ls n d A s s.heap := by
  obtain ⟨c, k, i, f, a, cell, h1, h2, h3, h4, h5, h6, h7, h8, h9⟩ := Cond.laysStatic_spec hl
  obtain ⟨v, hv, hvr⟩ := Cond.isRef_spec hr
  obtain ⟨-, a', cell', ha', hcell', -, hslot⟩ := Term.static_spec h2 hv
  cases h4.symm.trans ha'
  cases h5.symm.trans hcell'
  exact ⟨c, k, i, f, a, cell, h1, h2, h3, h4, h5, h6, h7, h8, h9, ⟨v, hslot, hvr⟩, hA a (Array.getElem?_eq_some_iff.mp h5).1⟩
abbrev sk_tm (i : Nat) : Term := .string (pm_sk.getD i ("", 0, "")).1 (pm_sk.getD i ("", 0, "")).2.1
def sk_fl : List Cond := flatC (Jvm.Cond.and given_1 narrow_1)
theorem sk_1 : ∀ i : Nat, i < 18 → pm_sl.getD i 0 < 2 ^ 31 := by decide +kernel
theorem sk_2 : ∀ i : Nat, i < 18 → Cond.exactly (sk_tm i) "java/lang/String" ∈ sk_fl := by decide +kernel
theorem sk_3 : ∀ i : Nat, i < 18 → Cond.eq (.field (sk_tm i) "java/lang/String" "coder" "B") (.int 0) ∈ sk_fl := by decide +kernel
theorem sk_4 : ∀ i : Nat, i < 18 → Cond.arrayOf (.field (sk_tm i) "java/lang/String" "value" "[B") .byte ∈ sk_fl := by decide +kernel
theorem sk_5 : ∀ i : Nat, i < 18 → Cond.eq (.length (.field (sk_tm i) "java/lang/String" "value" "[B")) (.int (Int32.ofNat (pm_sl.getD i 0))) ∈ sk_fl := by decide +kernel
def sk_e : Cond → Bool
  | .eq (.elem _ _) _ => true
  | _ => false
def sk_n : Cond → Bool
  | .not (.eq _ _) => true
  | _ => false
theorem sk_6a : (List.range 18).flatMap (fun i => (List.range (pm_sl.getD i 0)).map fun j => Cond.eq (.elem (.field (sk_tm i) "java/lang/String" "value" "[B") (.int (Int32.ofNat j))) (.int ((pm_sb.getD i []).getD j 0))) = sk_fl.filter sk_e := by decide +kernel
theorem sk_7a : (List.range 18).flatMap (fun j => (List.range j).map fun i => Cond.not (Cond.eq (sk_tm i) (sk_tm j))) = sk_fl.filter sk_n := by decide +kernel
theorem sk_6 (i : Nat) (hi : i < 18) (j : Nat) (hj : j < pm_sl.getD i 0) : Cond.eq (.elem (.field (sk_tm i) "java/lang/String" "value" "[B") (.int (Int32.ofNat j))) (.int ((pm_sb.getD i []).getD j 0)) ∈ sk_fl := by
  refine (List.mem_filter (p := sk_e)|>.mp ?_).1
  rw [← sk_6a]
  exact List.mem_flatMap.mpr ⟨i, List.mem_range.mpr hi, List.mem_map.mpr ⟨j, List.mem_range.mpr hj, rfl⟩⟩
theorem sk_7 (i : Nat) (hi : i < 18) (j : Nat) (hj : j < 18) (hij : i < j) : Cond.not (Cond.eq (sk_tm i) (sk_tm j)) ∈ sk_fl := by
  refine (List.mem_filter (p := sk_n)|>.mp ?_).1
  rw [← sk_7a]
  exact List.mem_flatMap.mpr ⟨j, List.mem_range.mpr hj, List.mem_map.mpr ⟨i, List.mem_range.mpr hij, rfl⟩⟩
theorem sk_8 : ∀ i : Nat, i < 18 → Cond.stringRef (pm_sk.getD i ("", 0, "")).1 (pm_sk.getD i ("", 0, "")).2.1 (pm_sk.getD i ("", 0, "")).2.2 ∈ lw_tbl := by decide +kernel
theorem of_bv (x : Int32) : Int32.ofNat x.toBitVec.toNat = x := by
  apply Int32.toBitVec.inj
  show BitVec.ofNat 32 _ = _
  rw [BitVec.ofNat_toNat, BitVec.setWidth_eq]
set_option maxHeartbeats 1000000 in
theorem ws_X {b L : Nat} {xs : Nat → Int32} (hL : L ≤ 3072) (hts : ∀ w ∈ lw_tbl, w.before args s = true) (hX : va_X b L xs s s.heap) (hbl : b < s.heap.size) (hgv : (Jvm.Cond.and given_1 narrow_1).before args s = true) : ∃ X : pm_X, X.2.2.1 = s.heap.size ∧ X.2.2.2.1 38 = b ∧ X.2.2.2.1 39 = L ∧ pm_C X s := by
  have hs := flat_of_before _ hgv
  have htW : ∀ w ∈ pm_WS, w.before args s = true := fun w hw => hts w (List.mem_filter.mp hw).1
  obtain ⟨dd, hdd⟩ := Classical.axiomOfChoice (kn_all htW)
  obtain ⟨tc, htc⟩ := Classical.axiomOfChoice (ar_all hts)
  have hA : ∀ a : Nat, a < s.heap.size → ¬ (s.heap.size ≤ a) := fun a h => by omega
  obtain ⟨adK, adV, hS, hev⟩ := vk_Sof (args := args) (s := s) (N := 18) (tm := sk_tm) (len := pm_sl) (byt := pm_sb) (A := fun q => s.heap.size ≤ q) sk_1 (fun i hi => hs _ (sk_2 i hi)) (fun i hi => hs _ (sk_3 i hi)) (fun i hi => hs _ (sk_4 i hi)) (fun i hi => hs _ (sk_5 i hi)) (fun i hi j hj => hs _ (sk_6 i hi j hj)) (fun i j hi hj hij => by
    rcases Nat.lt_or_gt_of_ne hij with h | h
    · exact Or.inl (hs _ (sk_7 i hi j hj h))
    · exact Or.inr (hs _ (sk_7 j hj i hi h))) hA
  obtain ⟨t0, ht0, hT0⟩ := va_Tof (args := args) (s := s) (tm := .static "java/util/ArrayList" "DEFAULTCAPACITY_EMPTY_ELEMENTDATA" "[Ljava/lang/Object;") (ty := .object "java/lang/Object") (N := 0) (f := fun _ => .null) (A := fun q => s.heap.size ≤ q) (by decide) (hs _ (by decide +kernel)) (va_eqt (hs _ (by decide +kernel))) (fun j hj => absurd hj (Nat.not_lt_zero _)) hA
  have hZ0 := va_Zof (args := args) (s := s) (A := fun q => s.heap.size ≤ q) (hts (.laysStatic "java/util/ArrayList" "DEFAULTCAPACITY_EMPTY_ELEMENTDATA" "[Ljava/lang/Object;") (by decide +kernel)) (hts (.initialized "java/util/ArrayList") (by decide +kernel)) ht0 hA
  obtain ⟨mi, hmi⟩ := va_Mi.of (args := args) (s := s) (C := "[Ljava/lang/Object;") (hs _ (by decide +kernel))
  have hZ1 := va_Zof (args := args) (s := s) (A := fun q => s.heap.size ≤ q) (hts (.laysStatic "java/lang/String" "COMPACT_STRINGS" "Z") (by decide +kernel)) (hts (.initialized "java/lang/String") (by decide +kernel)) (va_eqi (z := 1) (hs _ (by decide +kernel))) hA
  obtain ⟨op, hZ2⟩ : ∃ op : Option Nat, va_Z "jdk/internal/util/Preconditions" "SIOOBE_FORMATTER" "Ljava/util/function/BiFunction;" (va_rf op) (fun q => s.heap.size ≤ q) s s.heap := by
    rcases va_Zqof (args := args) (s := s) (A := fun q => s.heap.size ≤ q) (hts (.laysStatic "jdk/internal/util/Preconditions" "SIOOBE_FORMATTER" "Ljava/util/function/BiFunction;") (by decide +kernel)) (hts (.initialized "jdk/internal/util/Preconditions") (by decide +kernel)) (hs _ (by decide +kernel)) hA with h | ⟨t, h⟩
    · exact ⟨none, h⟩
    · exact ⟨some t, h⟩
  have hL1 := ls_of (args := args) (s := s) (A := fun q => s.heap.size ≤ q) (n := "UNASSIGNED_STACK") (d := "[Ljava/lang/StackTraceElement;") (hts _ (by decide +kernel)) (hs _ (by decide +kernel)) hA
  have hL2 := ls_of (args := args) (s := s) (A := fun q => s.heap.size ≤ q) (n := "SUPPRESSED_SENTINEL") (d := "Ljava/util/List;") (hts _ (by decide +kernel)) (hs _ (by decide +kernel)) hA
  obtain ⟨scr, x1, x2, x3, x4, x5⟩ := hX
  let ad : Nat → Nat := fun k => if k = 0 then t0 else if k = 1 then mi else if k = 38 then b else if k = 39 then L else if 40 ≤ k then (xs (k - 40)).toBitVec.toNat else if k % 2 = 0 then adK (k / 2 - 1) else adV (k / 2 - 1)
  have aK : ∀ i, i < 18 → ad (2 * i + 2) = adK i := fun i hi => by
    show (if 2 * i + 2 = 0 then t0 else if 2 * i + 2 = 1 then mi else if 2 * i + 2 = 38 then b else if 2 * i + 2 = 39 then L else if 40 ≤ 2 * i + 2 then (xs (2 * i + 2 - 40)).toBitVec.toNat else if (2 * i + 2) % 2 = 0 then adK ((2 * i + 2) / 2 - 1) else adV ((2 * i + 2) / 2 - 1)) = adK i
    rw [if_neg (by omega), if_neg (by omega), if_neg (by omega), if_neg (by omega), if_neg (by omega), if_pos (by omega), show (2 * i + 2) / 2 - 1 = i by omega]
  have aV : ∀ i, i < 18 → ad (2 * i + 3) = adV i := fun i hi => by
    show (if 2 * i + 3 = 0 then t0 else if 2 * i + 3 = 1 then mi else if 2 * i + 3 = 38 then b else if 2 * i + 3 = 39 then L else if 40 ≤ 2 * i + 3 then (xs (2 * i + 3 - 40)).toBitVec.toNat else if (2 * i + 3) % 2 = 0 then adK ((2 * i + 3) / 2 - 1) else adV ((2 * i + 3) / 2 - 1)) = adV i
    rw [if_neg (by omega), if_neg (by omega), if_neg (by omega), if_neg (by omega), if_neg (by omega), if_neg (by omega), show (2 * i + 3) / 2 - 1 = i by omega]
  have aX : ∀ j, ad (40 + j) = (xs j).toBitVec.toNat := fun j => by
    show (if 40 + j = 0 then t0 else if 40 + j = 1 then mi else if 40 + j = 38 then b else if 40 + j = 39 then L else if 40 ≤ 40 + j then (xs (40 + j - 40)).toBitVec.toNat else if (40 + j) % 2 = 0 then adK ((40 + j) / 2 - 1) else adV ((40 + j) / 2 - 1)) = _
    rw [if_neg (by omega), if_neg (by omega), if_neg (by omega), if_neg (by omega), if_pos (by omega), show 40 + j - 40 = j by omega]
  refine ⟨((fun c => (dd c).1, fun c => (dd c).2), tc, s.heap.size, ad, op), rfl, rfl, rfl, ⟨fun c q hq => hdd c q hq, fun k q hk => ?_⟩, fun w hw => va_Nw.of (pm_NW_tab w hw) (hts w (List.mem_append_right _ (pm_NW_in w hw))), fun C hC => ?_, ⟨?_, ?_, hZ0, hT0, hmi, hZ1, hZ2, hL1, hL2, ?_⟩, Nat.le_refl _⟩
  · have hk2 : ((List.range pm_kt.length).map fun t => (tc t, pm_kt.getD t .int))[k]? = some q := hk
    rw [List.getElem?_map] at hk2
    have hlt : k < pm_kt.length := by
      by_cases h : k < pm_kt.length
      · exact h
      · rw [List.getElem?_eq_none (by rw [List.length_range]; omega)] at hk2
        cases hk2
    rw [List.getElem?_range hlt] at hk2
    cases hk2
    exact htc k _ (by show pm_kt[k]? = some (pm_kt.getD k .int); rw [List.getD_eq_getElem?_getD, List.getElem?_eq_getElem hlt]; rfl)
  · have h2 : C = "TestText$Trace" ∨ C = "java/lang/Object" := by simpa [pm_AO] using hC
    rcases h2 with rfl | rfl
    · exact va_AO.of (A := args) (hts _ (by decide +kernel))
    · exact va_AO.of (A := args) (hts _ (by decide +kernel))
  · obtain ⟨s1, s2⟩ := hS
    refine ⟨fun i hi => ?_, fun i j hi hj h => ?_⟩
    · show va_O "java/lang/String" (ad (2 * i + 2)) _ _ _ ∧ va_OF _ _ _ _ (ad (2 * i + 2)) _ _ _ ∧ va_OF _ _ _ (.ref (ad (2 * i + 3))) (ad (2 * i + 2)) _ _ _ ∧ va_T .byte (ad (2 * i + 3)) _ _ _ _ _
      rw [aK i hi, aV i hi]
      exact s1 i hi
    · have h : ad (2 * i + 2) = ad (2 * j + 2) := h
      rw [aK i hi, aK j hj] at h
      exact s2 i j hi hj h
  · intro i hi
    show vk_R _ _ _ (ad (2 * i + 2)) s
    rw [aK i hi]
    exact vk_R.of (A := args) (hts _ (sk_8 i hi)) (hev i hi)
  · refine ⟨scr, x1, x2, x3, Nat.le_of_eq x4.symm, by show Int32.ofNat scr.slots.size = Int32.ofNat L; rw [x4], fun j hj => ?_, hA b hbl⟩
    show scr.slots[j]? = some (.int (Int32.ofNat (ad (40 + j))))
    rw [aX j, of_bv]
    exact x5 j hj
end WS
