/-! THE THROWING: new, the constructor, athrow. The walk is taken up afresh from the state that is there (st_re). -/
section RE
variable {p : Program} {l : Launch} {e : Env} {R : Room} {s : State} {m : MethodId} {args : Array Value} {below : List Frame} {meth : Method} {c : Code} {T : State} {locs : List Loc} {k n : Nat}
/-- the entry's state with the heap of now -/
abbrev st_now (s T : State) : State := { s with heap := T.heap, slotsUsed := T.slotsUsed }
theorem st_reS (X : Stand p l e R s m args below meth c T locs k n) : s.sameButNew (st_now s T) locs k n := by
  obtain ⟨a1, a2, a3, a4, a5, a6⟩ := X.same
  obtain ⟨t, ht, -⟩ := State.frames_cons X.frames
  refine ⟨?_, a2, a3, a4, a5, a6⟩
  show ({ s with heap := T.heap, slotsUsed := T.slotsUsed } : State) = { s.setFrames s.frames with heap := T.heap, slotsUsed := T.slotsUsed }
  rw [State.setFrames_self ht]
theorem st_re (X : Stand p l e R s m args below meth c T locs k n) (hk : k ≤ R.cells) (hn : n ≤ R.slots) : Stand p l e { R with cells := R.cells - k, slots := R.slots - n } (st_now s T) m args below meth c T [] 0 0 := by
  obtain ⟨a1, a2, a3, a4, a5, a6⟩ := id X.same
  refine ⟨X.admits, X.cas, X.clock, X.frames, ?_, X.hears, X.method, X.code, X.here, X.tail, X.warmed, X.limits, X.bytes, ?_⟩
  · have h := X.room
    have hb := X.book
    have hu := X.used
    have hz := X.heapSize
    simp only [State.hasRoom, Bool.and_eq_true, decide_eq_true_eq] at h ⊢
    obtain ⟨⟨⟨⟨h1, h2⟩, h3⟩, h4⟩, h5⟩ := h
    exact ⟨⟨⟨⟨h1, h2⟩, by show T.heap.size + (R.cells - k) ≤ _; omega⟩, by show T.slotsUsed + (R.slots - n) ≤ _; omega⟩, hb⟩
  · refine ⟨a1, Nat.le_refl _, Nat.le_refl _, ?_, ?_, fun a c h => ⟨c, h, rfl, rfl, fun _ _ => rfl⟩⟩
    · show T.slotsUsed = T.slotsUsed + ((T.heap.toList.drop T.heap.size).map (·.slots.size)).sum
      rw [List.drop_eq_nil_of_le (by simp)]
      rfl
    · show ((T.heap.toList.drop T.heap.size).map (·.slots.size)).sum ≤ 0
      rw [List.drop_eq_nil_of_le (by simp)]
      exact Nat.le_refl _
/-- a word of the tables does not look at the heap -/
theorem st_on {w : Cond} (ht : w.onTables = true) {A A' : Array Value} (h : w.before A s = true) : w.before A' (st_now s T) = true := (Cond.onTables_vm (A := A') (A' := A) (U := st_now s T) (U' := s) s.vm w ht).trans h
/-- nothing written: what was there is there -/
theorem st_kept {s t : State} {k n : Nat} (h : s.sameButNew t [] k n) {q : Nat} (hq : q < s.heap.size) : t.heap[q]? = s.heap[q]? := by
  obtain ⟨-, -, -, -, -, a6⟩ := h
  obtain ⟨c, hc⟩ : ∃ c, s.heap[q]? = some c := ⟨_, Array.getElem?_eq_getElem hq⟩
  obtain ⟨c', h1, h2, h3, h4⟩ := a6 q c hc
  rw [h1, hc, h2]
  have : c'.slots = c.slots := by
    apply Array.ext_getElem?
    intro i
    exact h4 i (List.not_mem_nil)
  rw [this]
end RE
theorem pm_goodS : GoodIn pm_WS pm_WS := fun w hw => ⟨hw, good_of_word (List.mem_filter.mp hw).2⟩
abbrev pm_ISE : String := "java/lang/IllegalStateException"
theorem pm_Ls.lays {n d : String} {A : Nat → Prop} {U : State} {args : Array Value} (h : pm_Ls n d A U U.heap) : (Cond.laysStatic "java/lang/Throwable" n d).before args U = true := by
  obtain ⟨c, k, i, f, a, cell, h1, h2, h3, h4, h5, h6, h7, h8, h9, -⟩ := h
  exact Cond.laysStatic_of h1 h2 h3 h4 h5 h6 h7 h8 h9
theorem pm_Ls.ref {n d : String} {A : Nat → Prop} {U : State} {args : Array Value} (h : pm_Ls n d A U U.heap) : (Cond.isRef (.static "java/lang/Throwable" n d)).before args U = true := by
  obtain ⟨c, k, i, f, a, cell, h1, h2, h3, h4, h5, h6, h7, h8, h9, ⟨v, hv, hr⟩, -⟩ := h
  have he : (Term.static "java/lang/Throwable" n d).eval args U none [] U = some v := by
    simp [Term.eval, State.fieldNamed?, h2, h3, h4, h5, h6, hv]
  simp only [Cond.before, Cond.holds, Cond.value, he]
  cases v <;> simp [Value.isRef] at hr ⊢
/-- all that the tables say of the exception -/
theorem ise_atoms {X : pm_X} {s : State} {args : Array Value} (hts : ∀ w ∈ pm_WS, w.before args s = true) (hC : pm_C X s) : ∀ a ∈ Bundle.ownAtoms "TestText" 70 pm_ISE ["java/lang/RuntimeException", "java/lang/Exception"], a.before args s = true := by
  have nw : ∀ w ∈ pm_NW, w.before args s = true := fun w hw => va_any (pm_NW_tab w hw) (hC.2.1 w hw)
  have s1 := hC.2.2.2.1.2.2.2.2.2.2.2.1
  have s2 := hC.2.2.2.1.2.2.2.2.2.2.2.2.1
  have x1 : prog_24_method_18_code = LibCode.Throwable.Fill.code := by decide +kernel
  have x2 : prog_24_method_1_code = LibCode.Throwable.Init0.code := by decide +kernel
  have x3 : object_method_1_code = ⟨#[0xb1]⟩ := by decide +kernel
  have x4 : prog_24_method_2_code = LibCode.Throwable.InitS.code := by decide +kernel
  have x5 : prog_15_method_2_code = Bundle.six := by decide +kernel
  have x6 : prog_19_method_2_code = Bundle.six := by decide +kernel
  have x7 : prog_14_method_2_code = Bundle.six := by decide +kernel
  unfold Bundle.ownAtoms Bundle.throwableAtoms Bundle.throwableSAtoms Bundle.chainSAtoms Bundle.chainSAtoms Bundle.chainSAtoms Bundle.passSAtoms
  simp only [List.forall_mem_append, List.forall_mem_cons, List.not_mem_nil, false_implies, implies_true, and_true]
  refine ⟨⟨⟨⟨hts _ hw_21, hts _ hw_887, hts _ hw_896, hts _ (x1 ▸ hw_898), hts _ hw_901, hts _ hw_903, hts _ hw_888, hts _ (x2 ▸ hw_889), hts _ hw_34, hts _ (x3 ▸ hw_35), hts _ hw_890, hts _ hw_895, hts _ hw_899, hts _ hw_919, hts _ hw_877, hts _ hw_920, hts _ hw_879, hts _ hw_921, hts _ hw_881, hts _ hw_891, s1.lays, hts _ hw_893, s2.lays, hts _ hw_883⟩, ⟨hts _ hw_915, hts _ (x4 ▸ hw_916), hts _ hw_918, hts _ hw_883⟩⟩, ⟨hts _ hw_906, hts _ (x5 ▸ hw_907), hts _ hw_908, hts _ hw_909, nw _ (by decide +kernel)⟩, ⟨hts _ hw_909, hts _ (x6 ▸ hw_910), hts _ hw_911, hts _ hw_912, nw _ (by decide +kernel)⟩, ⟨hts _ hw_912, hts _ (x7 ▸ hw_913), hts _ hw_914, hts _ hw_915, nw _ (by decide +kernel)⟩⟩, ⟨hts _ hw_905, hts _ hw_866, nw _ (by decide +kernel), hts _ hw_874, hts _ hw_875, hts _ hw_876, hts _ hw_878, hts _ hw_880, hts _ hw_882, s1.ref, s2.ref, hts _ hw_886, hts _ hw_885, hts _ hw_884⟩⟩
/-- the throwing, wherever it stands in TestText.read -/
theorem ev_ise {l : Launch} {X : pm_X} {d mc ms k n : Nat} {Q : Option Value → pm_G → Prop} {ls : List (Nat × Value)} {G : pm_G} (htr : l.stackTraces = false) (hd : 8 ≤ d) (hk : k + 1 ≤ mc) (hn : n + 20 ≤ ms) (hQ : ∀ ex, Q (some (.ref ex)) G) : ev_W l X m_TT_read d mc ms Q k n 77 ls [] G := by
  intro p e s m args below meth c H locs la hF hS hI hl h1 h2 T hT hX
  obtain ⟨hx, hb, hr, hml, hlk, hnm, hown, hts, hC⟩ := id hF
  have X1 := st_re hX h1 h2
  have hS' : va_S (pm_A X) s.heap T.heap locs := by rw [hT]; exact hS
  have hC' : pm_C X (st_now s T) := hC.to (U := st_now s T) (State.WarmedH.refl s) hS'
  have hts' : ∀ w ∈ pm_WS, w.onTables = true → w.before args (st_now s T) = true := fun w hw ht => st_on ht (hts w hw)
  obtain ⟨cX, kX, hfc, hkX, -⟩ := Cond.instantiable_spec (hts _ hw_866)
  obtain ⟨meth', c', hm', hc', -, -, -, -, he', -⟩ := Cond.code_spec hnm.2 (hts _ hw_491)
  cases hX.method.symm.trans hm'
  cases hX.code.symm.trans hc'
  have hpf := hX.admits.platform
  have htr' : e.platform.stackTraces = false := by rw [hpf]; exact htr
  have K : W p l e { pm_R d mc ms with cells := mc - k, slots := ms - n } (st_now s T) m args below meth c T.heap [] 0 0 (fun t => t.status = .running ∧ ∃ a, Ended t below (.threw a) ∧ (st_now s T).WarmedH t.vm ∧ (st_now s T).sameButNew ({ t with vm := s.vm } : State) [] 1 6 ∧ ∃ ce, t.heap[a]? = some ce ∧ ce.vm = .none ∧ s.vm.findClass pm_ISE = some ce.cls) (F0 m 77 la []) := by
    refine W.newcK (s := st_now s T) (own := "TestText") (C := pm_ISE) (index := 66) (n := 6) hx hb hown (hts' _ hw_865 rfl) (hts' _ hw_866 rfl) (hts' _ hw_24 rfl) rfl d_TT_read_77 (by show 0 + 1 ≤ mc - k; omega) (by show 0 + 6 ≤ ms - n; omega) hfc rfl (fun H1 kC hkC e1 z1 o1 => ?_)
    refine lv_dup hx hb d_TT_read_80 rfl ?_
    refine va_ldcS hx hb hown (hC'.2.2.2.1.2.1 17 (by decide)) d_TT_read_81 ?_
    intro T2 hT2 X2
    obtain ⟨U, q1, q2, q3, q4, q5, ce, q6, q7⟩ := X2.ctorThrowS hx htr' (own := "TestText") (cls := pm_ISE) (names := ["java/lang/RuntimeException", "java/lang/Exception"]) (ic := 70) hown (by decide +kernel) (by decide +kernel)
      (ise_atoms (X := X) (s := st_now s T) (fun w hw => pay_in hts pm_goodS w hw args (st_now s T) (State.WarmedH.refl s)) hC') (fun x hx => by cases hx) (a := T.heap.size) hfc hkC (by rw [hT2]; exact e1) (Nat.le_refl _) (msg := .ref (X.2.2.2.1 (2 * 17 + 2))) rfl (g := F0 m 83 la [.ref (X.2.2.2.1 (2 * 17 + 2)), .ref T.heap.size, .ref T.heap.size]) rfl (by rw [hml]; exact hl.1) rfl rfl (rest := []) rfl (by rw [hb]; exact d_TT_read_83) (by rw [hb]; exact d_TT_read_86)
      (fun x hx => by rw [Array.isEmpty_iff.mp he'] at hx; cases hx) (by show 2 + 3 < d; omega) (by show 2 * 0 + (1 + 0) + (13 * (2 + 1) + 42) ≤ 64 * d; omega) hlk
    exact ⟨U, q1, q2, _, q3, q4, q5, ce, q6, q7.vm, q7.cls⟩
  obtain ⟨t, a1, b1, a, b2, b3, b4, ce, b5, b6, b7⟩ := K T rfl X1
  have kq : ∀ q, q < T.heap.size → t.heap[q]? = T.heap[q]? := fun q hq => st_kept b4 hq
  have hsz : T.heap.size ≤ t.heap.size := b4.2.1
  have hW : s.WarmedH t.vm := b3
  refine ⟨t, a1, .threw a, b1, b2, ⟨some (.ref a), G, Or.inr ⟨rfl, a, rfl, rfl, ce, b5, b6, by rw [hW.alike.findClass]; exact b7⟩, hQ a, ?_, ?_⟩, locs, ⟨hW, ?_⟩, hS.2.2⟩
  · obtain ⟨ws, hP, hD, hGw⟩ := hI
    exact ⟨ws, hP.kept (fun k x hx => by rw [← hT]; exact kq x.1 (by rw [hT]; exact (hP k x hx).lt)), hD, hGw⟩
  · exact ⟨Nat.le_trans hS'.1 hsz, fun q g1 g2 => (kq q (Nat.lt_of_lt_of_le g1 hS'.1)).trans (hS'.2.1 q g1 g2)⟩
  · have := (st_reS hX).trans (u := { t with vm := s.vm }) b4
    rw [List.append_nil] at this
    exact this.weaken (fun y hy _ => hy) (by omega) (by omega)
