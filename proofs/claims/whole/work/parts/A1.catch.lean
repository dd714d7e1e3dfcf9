/-! A CALL THAT MAY THROW, AND THE HANDLER. -/
section CO
variable {e : Env} {s : State} {f : JFrame} {a : Addr}
/-- the search, where the entry's class is not yet looked up: as from the tables that the looking up leaves -/
theorem find_cold {meth : Method} {c : Code} (hm : s.vm.method? f.method = some meth) (hc : meth.code = some c) {x : ExceptionTableEntry} (hsplit : c.exceptionTable.toList = [x]) (hx : covers x f.pc = true) (h0 : x.catchType ≠ 0) {cI : ClassId}
    (hl : s.vm.ClassLinks e.platform f.method.cls x.catchType cI) {cell : Cell} (hcell : s.heap[a]? = some cell) (hobj : ∀ k, cell.vm ≠ .statics k) (hk : ∃ k, s.vm.classes[cell.cls]? = some k) (hcl : ∃ k, s.vm.classes[cI]? = some k) (hal : s.vm.Alike (s.vm.noted f.method.cls x.catchType (.cls cI))) (hfit : s.vm.assignable cell.cls cI = true)
    (Q : Handler → Pre) (E : CtlPost) (d : Bool) (acts : List Action) : wp (findHandler f a) Q E e d acts s ↔ Q (.found x.handlerPc) d acts (s.setVm (s.vm.noted f.method.cls x.catchType (.cls cI))) := by
  have hg := resolveClass_links e.toSetting hl
  obtain ⟨ha, ht⟩ := hg.op (op := VmOp.resolveClass f.method.cls x.catchType) rfl
  have hx' := hx
  simp only [covers] at hx'
  have hsz : (s.vm.noted f.method.cls x.catchType (.cls cI)).classes.size ≤ s.vm.classes.size := hal.size_le
  have hfit' : (s.vm.noted f.method.cls x.catchType (.cls cI)).assignable cell.cls cI = true := by rw [hal.assignable]; exact hfit
  obtain ⟨k1, hk1⟩ := hk
  obtain ⟨k2, hk2⟩ := hcl
  obtain ⟨k1', hk1', -⟩ := hal.2.2 _ _ hk1
  obtain ⟨k2', hk2', -⟩ := hal.2.2 _ _ hk2
  rw [W.findHandler_eq hm hc, hsplit]
  simp [findHandler.go, hx', h0, ha, ht, hsz, hcell, hobj, hk1', hk2', hfit', VmOp.dirties, VmOp.acts]
theorem step_cold {r : List Frame} {pc : Nat} {vm' : Vm} (hfind : ∀ (Q : Handler → Pre) (E : CtlPost) (d : Bool) (acts : List Action), wp (findHandler f a) Q E e d acts s ↔ Q (.found pc) d acts (s.setVm vm')) : (stepThrowing e s a (.java f :: r)).1 = (s.setVm vm').setFrames (.java { f with pc := pc, stack := [.ref a] } :: r) := by
  simp only [stepThrowing, searchFrame, vmDo]
  generalize hr : Sem.go _ e false [] s = res
  obtain ⟨as, rfl, ha⟩ := Sem.eq_ok_of hr (a := Handler.found pc) (s' := s.setVm vm') (acts' := []) (by simp [hfind])
  rfl
end CO
/-- the exception is caught in the walked method, its class looked up there for the first time or not -/
theorem st_caught {p : Program} {l : Launch} {e : Env} {R : Room} {s : State} {m : MethodId} {args : Array Value} {below : List Frame} {meth : Method} {c : Code} {T : State} {locs : List Loc} {k n : Nat} (X : Stand p l e R s m args below meth c T locs k n)
    {own C : String} (hown : s.vm.findClass own = some m.cls) {x : ExceptionTableEntry} (hsplit : c.exceptionTable.toList = [x]) {g : JFrame} (hg : g.method = m) (hx : covers x g.pc = true) (h0 : x.catchType ≠ 0) (hlink : (Cond.classLink own x.catchType C).before args s = true) {args' : Array Value} (hcast : (Cond.castable C C).before args' s = true)
    {a : Addr} {cell : Cell} (hcell : T.heap[a]? = some cell) (hobj : cell.vm = .none) (hcls : T.vm.findClass C = some cell.cls) :
    ∃ vm', s.WarmedH vm' ∧ ∀ target, Steps p.tables e below ((T.setVm vm').setTop { g with pc := x.handlerPc, stack := [.ref a] }) target → Steps p.tables e below ((T.setTop g).pushFrame (.throwing a)) target := by
  subst hg
  have hpl : e.platform.magicAccessors = ({} : Platform).magicAccessors := by rw [X.admits.platform]
  obtain ⟨cI, hcI, hL⟩ := Cond.classLink_spec hown hlink e.platform hpl
  have hW := X.warmed
  have hL' : T.vm.ClassLinks e.platform g.method.cls x.catchType cI := hW.classLinks hL
  have hfT : T.vm.findClass C = some cI := by rw [hW.alike.findClass]; exact hcI
  have hcc : cI = cell.cls := Option.some.inj (hfT.symm.trans hcls)
  obtain ⟨c3, c4, w1, w2, w3⟩ := Cond.castable_spec hcast
  cases hcI.symm.trans w1
  cases hcI.symm.trans w2
  have hfit : T.vm.assignable cell.cls cI = true := by rw [← hcc, hW.alike.assignable]; exact w3
  obtain ⟨dk, cf, name, ck, z1, z2, z3, z4, z5, z6, z7, z8⟩ := hL.here
  have hWn : s.WarmedH (T.vm.noted g.method.cls x.catchType (.cls cI)) := hW.noted z1 z8 (State.rightAt_cls hL)
  have hal : T.vm.Alike (T.vm.noted g.method.cls x.catchType (.cls cI)) := hW.alike.symm.trans hWn.alike
  have hm : T.vm.method? g.method = some meth := by rw [hW.alike.method?]; exact X.method
  have h : At T g.method c below := X.here
  refine ⟨_, hWn, fun target hrest => ?_⟩
  obtain ⟨hgo, hw⟩ := h.throwing a
  refine Steps.head hgo hw ?_
  have hvm : ((T.setTop g).pushFrame (.throwing a)).vm = T.vm := throwing_vm T g a
  have hh : ((T.setTop g).pushFrame (.throwing a)).heap = T.heap := throwing_heap T g a
  have hst := step_cold (e := e) (s := (T.setTop g).pushFrame (.throwing a)) (f := g) (a := a) (r := T.frames.tail) (pc := x.handlerPc) (vm' := T.vm.noted g.method.cls x.catchType (.cls cI))
    (fun Q E d acts => by
      have := find_cold (e := e) (s := (T.setTop g).pushFrame (.throwing a)) (f := g) (a := a) (by rw [hvm]; exact hm) X.code hsplit hx h0 (cI := cI) (by rw [hvm]; exact hL') (by rw [hh]; exact hcell) (fun k hk => by rw [hobj] at hk; cases hk) (by rw [hvm]; exact Vm.classAt_of_findClass hcls) (by rw [hvm]; exact Vm.classAt_of_findClass hfT) (by rw [hvm]; exact hal) (by rw [hvm]; exact hfit) Q E d acts
      rw [hvm] at this
      exact this)
  rw [stepThread_throwing (frames_entered h.top _), hst]
  obtain ⟨g₀, hg0⟩ := Option.isSome_iff_exists.mp h.top
  obtain ⟨r, hr⟩ := State.topJava?_eq_some.mp hg0
  have hr' : (T.setVm (T.vm.noted g.method.cls x.catchType (.cls cI))).frames = .java g₀ :: r := hr
  rw [State.setTop_of_frames _ hr'] at hrest
  have e1 : (((T.setTop g).pushFrame (.throwing a)).setVm (T.vm.noted g.method.cls x.catchType (.cls cI))).setFrames (.java { g with pc := x.handlerPc, stack := [.ref a] } :: T.frames.tail) = (T.setVm (T.vm.noted g.method.cls x.catchType (.cls cI))).setFrames (.java { g with pc := x.handlerPc, stack := [.ref a] } :: r) := by
    rw [hr, State.setTop_of_frames _ hr]
    show ((((T.setFrames (.java g :: r))).pushFrame (.throwing a)).setFrames _).setVm _ = _
    rw [State.pushFrame, State.setFrames_setFrames, State.setFrames_setFrames]
    rfl
  rw [e1]
  exact hrest
section CT
variable {l : Launch} {X : pm_X} {μ ν : pm_M} {d d' mc ms k n pc N idx mc' ms' : Nat} {Q Q' : Option Value → pm_G → Prop} {ls : List (Nat × Value)} {st : List Value} {G : pm_G} {av : List Value} {κ : Nat}
set_option maxHeartbeats 2000000 in
theorem ev_callVT {C : String} {T0 : u_T} {M ci b x1 x2 x3 x4 : Nat} {fs : List Value} (hd : decode μ.2.1 pc = .ok (.invokevirtual idx, 3)) (hc : pm_ck ν N) (hw : Cond.methodLink μ.1.cls idx ν.1 ∈ pm_WS) (hi : Cond.instanceMethod ν.1 ∈ pm_WS) (hsel : Cond.selects C ν.1 ν.1 ∈ pm_WS) (hcl : classes[ci]? = some (C, T0, M)) (hG : G b = some (κ, .inr (ci, fs))) (hM : cn_T l X ν d' mc' ms' (.ref b :: av) G Q') (hN : av.length = N) (hdd : d' + 1 ≤ d) (hst : (st.map fun v => v.category).sum ≤ 8) (hk : k + mc' ≤ mc) (hn : n + ms' ≤ ms) (hint : ν.2.2.2 = some .int)
    (hxt : Cond.codeWith μ.1 μ.2.1 μ.2.2.1 μ.2.2.2 [(x1, x2, x3, x4)] ∈ pm_WS) (hcov : (decide (x1 ≤ pc) && decide (pc < x2)) = true) (h04 : x4 ≠ 0) (hcI : Cond.classLink μ.1.cls x4 pm_ISE ∈ pm_WS)
    (kk : ∀ v G', Q' (some (.int v)) G' → ev_W l X μ d mc ms Q (k + mc') (n + ms') (pc + 3) ls (.int v :: st) G') (kt : ∀ ex G', Q' (some (.ref ex)) G' → ev_W l X μ d mc ms Q (k + mc') (n + ms') x3 ls [.ref ex] G') : ev_W l X μ d mc ms Q k n pc ls (av.reverse ++ .ref b :: st) G := by
  intro p e s m args below meth c H locs la hF hS hI hl h1 h2 T hT XT
  obtain ⟨hx, hb, hr, hml, hlk, hnm, hown, hts, hC⟩ := id hF
  obtain ⟨hc1, hc2, hc3, hc4⟩ := hc
  obtain ⟨cellB, hcB, hoB, hclB⟩ := pm_recv hI hC hG hcl
  obtain ⟨mk, methM, hnamed, hmethM, hstM, habM⟩ := Cond.instanceMethod_spec (hts _ hi)
  obtain ⟨methM', cM, hmethM', hcM, -, hlM, -, -, -, hsigM⟩ := Cond.code_spec hnamed (hts _ hc1)
  cases hmethM.symm.trans hmethM'
  have hy : ν.1.cls ≠ "java/lang/invoke/MethodHandle" ∧ ν.1.cls ≠ "java/lang/invoke/VarHandle" := ⟨hc3.1, hc3.2.1⟩
  obtain ⟨c2, r2, m2, q1, q2, q3, q4, kP, hkP, hkPi⟩ := Cond.selects_spec (hts _ hsel)
  cases hclB.symm.trans q1
  cases (State.methodFound?_of_named hnamed hy).symm.trans q2
  cases hnamed.symm.trans q3
  have hselP : selectMethod e.platform s.vm cellB.cls mk = .method mk := by rw [Launch.admits_selectMethod XT.admits]; exact q4
  have hlen : av.length = methM.sig.parameters.length := by
    have h3 := hc3.2.2
    rw [hsigM] at h3
    exact hN.trans (Option.some.inj h3).symm
  obtain ⟨vm₁, X₁, hstep₁⟩ := XT.invokevirtual hx hown (hts _ hw) hnamed hmethM hstM hkP hkPi hy (a := b) (cell := cellB) (by rw [hT]; exact hcB) (fun z h => by rw [h] at hoB; cases hoB) hselP hmethM habM hkP hkPi (g := F0 m pc la (av.reverse ++ .ref b :: st)) rfl (argsL := av) (rest := st) hlen rfl (by rw [hb]; exact hd)
  have hnU := X₁.named hnamed
  have wU : ∀ w ∈ Cond.code ν.1 ν.2.1 ν.2.2.1 ν.2.2.2 :: pm_WS, w.before (Value.ref b :: av).toArray (T.setVm vm₁) = true := fun w hw => pay_in hts (pm_good hc1) w hw _ _ X₁.warmed
  obtain ⟨methY, cY, hmY, hcY, -, hlY, -⟩ := Cond.code_spec hnU (wU _ List.mem_cons_self)
  obtain ⟨kY, hkY, -⟩ := className_of_methodNamed hnU
  have hinitY : kY.init = .initialized := Cond.initialized_spec (findClass_of_methodNamed hnU) hkY (wU _ (List.mem_cons_of_mem _ hc2))
  have h : At (T.setVm vm₁) m c below := X₁.here
  obtain ⟨rf, rl⟩ := pm_room (d := d) (d' := d') (mc := mc) (ms := ms) (mc' := mc') (ms' := ms') hdd hc4
  have hroom : 2 * (F0 m pc la st).monitorRoom + ((F0 m pc la st).stack.map fun v => v.category).sum ≤ 8 := lv_room hst
  have happ : (headSpec (Cond.code ν.1 ν.2.1 ν.2.2.1 ν.2.2.2 :: pm_WS) (pm_R d' mc' ms')).appliesLoose ν.1 e.platform ((T.setVm vm₁).calling (F0 m pc la st) mk (Value.ref b :: av).toArray) = true :=
    Spec.appliesLoose_calling (g := F0 m pc la st) h (by rw [hb]; exact hd) hnU hkY hinitY
      (X₁.room_calling (g := F0 m pc la st) (R' := pm_R d' mc' ms') (by rw [hml]; exact hl.1) hmY hcY rf (by rw [hlY]; omega) hk hn) (atoms_intro wU)
  obtain ⟨mid, hmid⟩ := h.above
  have hfr : ((T.setVm vm₁).setTop (F0 m pc la st)).frames = (.java (F0 m pc la st) :: mid) ++ below := by rw [State.frames_setTop' _ h.top, hmid]; rfl
  have hP : va_Pc (.ref b :: av) (fun U => pm_C X U ∧ pm_In X G U.heap) (Value.ref b :: av).toArray ((T.setVm vm₁).calling (F0 m pc la st) mk (Value.ref b :: av).toArray) := pm_blind _ _ _ _ ⟨rfl, hC.to X₁.warmed (by show va_S _ _ T.heap locs; rw [hT]; exact hS), by show pm_In X G T.heap; rw [hT]; exact hI⟩
  obtain ⟨o, s₂, hsteps, -, hend, hq⟩ := Steps.callFree hM p X₁.admits X₁.cas X₁.clock (acts := []) hfr happ hP trivial
  rw [State.frames_setTop' _ h.top] at hend
  obtain ⟨⟨r, G', hoc, hq1, hq2, hq3, hq4⟩, L, ⟨hW₂, e2, q2', q3', q4', q5', q6'⟩, hL⟩ := hq
  have hW' : (T.setVm vm₁).WarmedH s₂.vm := hW₂
  have e3 : s₂ = ({ ((T.setVm vm₁).calling (F0 m pc la st) mk (Value.ref b :: av).toArray).setFrames s₂.frames with heap := s₂.heap, slotsUsed := s₂.slotsUsed } : State).setVm s₂.vm := by
    have e2' : ({ s₂ with vm := ((T.setVm vm₁).calling (F0 m pc la st) mk (Value.ref b :: av).toArray).vm } : State) = { ((T.setVm vm₁).calling (F0 m pc la st) mk (Value.ref b :: av).toArray).setFrames s₂.frames with heap := s₂.heap, slotsUsed := s₂.slotsUsed } := e2
    have : s₂ = ({ s₂ with vm := ((T.setVm vm₁).calling (F0 m pc la st) mk (Value.ref b :: av).toArray).vm } : State).setVm s₂.vm := rfl
    rw [e2'] at this
    exact this
  obtain ⟨g₀, hg0⟩ := Option.isSome_iff_exists.mp h.top
  obtain ⟨rs, hrs⟩ := State.topJava?_eq_some.mp hg0
  have hsame : (T.setVm vm₁).sameButNew ({ (T.setVm vm₁) with heap := s₂.heap, slotsUsed := s₂.slotsUsed } : State) L mc' ms' := by
    refine ⟨?_, q2', q3', q4', q5', q6'⟩
    obtain ⟨t, ht, -⟩ := State.frames_cons hrs
    show ({ (T.setVm vm₁) with heap := s₂.heap, slotsUsed := s₂.slotsUsed } : State) = { (T.setVm vm₁).setFrames (T.setVm vm₁).frames with heap := s₂.heap, slotsUsed := s₂.slotsUsed }
    rw [State.setFrames_self ht]
  have XB : Stand p l e (pm_R d mc ms) s m args below meth c (({ (T.setVm vm₁) with heap := s₂.heap, slotsUsed := s₂.slotsUsed } : State).setVm s₂.vm) (locs ++ L) (k + mc') (n + ms') :=
    ⟨X₁.admits, X₁.cas, X₁.clock, X₁.frames, X₁.room, X₁.hears, X₁.method, X₁.code, (X₁.here.setHeapUsed s₂.heap s₂.slotsUsed).setVm hW'.alike, X₁.tail, State.WarmedH.trans X₁.warmed hW', X₁.limits, X₁.bytes, X₁.same.trans (hsame.setVm s.vm)⟩
  have hS1 : va_S (pm_A X) s.heap s₂.heap (locs ++ L) := by
    have hz : T.heap.size ≤ s₂.heap.size := hq3
    have hy4 : ∀ q, q < T.heap.size → ¬ pm_A X q → s₂.heap[q]? = T.heap[q]? := hq4
    rw [hT] at hz hy4
    exact ⟨Nat.le_trans hS.1 hz, fun q g1 g2 => (hy4 q (Nat.lt_of_lt_of_le g1 hS.1) g2).trans (hS.2.1 q g1 g2), fun y hy => by
      rcases List.mem_append.mp hy with h | h
      · exact hS.2.2 y h
      · exact hL y h⟩
  have hst1 : Steps p.tables e below (T.setTop (F0 m pc la (av.reverse ++ .ref b :: st))) s₂ := hstep₁ _ fun acts => by
    rw [doInvoke_state]
    rw [doInvoke_state] at hsteps
    exact hsteps
  have hrB : (({ (T.setVm vm₁) with heap := s₂.heap, slotsUsed := s₂.slotsUsed } : State).setVm s₂.vm).frames = .java g₀ :: rs := hrs
  rcases hoc with ⟨hor, hoi⟩ | ⟨-, ex, hor, hot, ce, hce, hcv, hcc⟩
  · obtain ⟨v, hv⟩ := hoi hint
    subst hv
    subst hor
    obtain ⟨c₂, i₂, len₂, hc₂, hd₂, hf₂⟩ := hend
    have hcc : c₂ = c := by
      have h1 : s₂.code? m = (T.setVm vm₁).code? m := by
        rw [State.code?_eq, State.code?_eq, hW'.alike.method?]
      exact Option.some.inj (hc₂.symm.trans (h1.trans h.code))
    subst hcc
    have hlen3 : len₂ = 3 := by
      have hd3 := hd
      rw [← hb] at hd3
      rw [hd3] at hd₂
      cases hd₂
      rfl
    subst hlen3
    have hs₂ : s₂ = (({ (T.setVm vm₁) with heap := s₂.heap, slotsUsed := s₂.slotsUsed } : State).setVm s₂.vm).setTop (F0 m (pc + 3) la (.int v :: st)) := by
      refine e3.trans ?_
      rw [hf₂, State.calling_eq h.top, State.setFrames_setFrames, State.setTop_of_frames _ hrB, hrs]
      rfl
    obtain ⟨t, a1, a2⟩ := kk v G' hq1 p e s m args below meth c₂ s₂.heap (locs ++ L) la hF hS1 hq2 hl hk hn (({ (T.setVm vm₁) with heap := s₂.heap, slotsUsed := s₂.slotsUsed } : State).setVm s₂.vm) rfl XB
    have a3 : Steps p.tables e below s₂ t := by rw [hs₂]; exact a1
    exact ⟨t, hst1.trans a3, a2⟩
  · subst hor
    subst hot
    obtain ⟨m9, meth9, c9, hn9, hm9, hc9, -, -, ht9, -⟩ := Cond.codeWith_spec (hts _ hxt)
    cases hnm.2.symm.trans hn9
    cases XT.method.symm.trans hm9
    cases XT.code.symm.trans hc9
    have htab : c.exceptionTable.toList = [⟨x1, x2, x3, x4⟩] := by
      have := table_eq c.exceptionTable.toList
      rw [ht9] at this
      exact this.symm
    obtain ⟨vm', hWn, hgo⟩ := st_caught XB hown (x := ⟨x1, x2, x3, x4⟩) htab (g := F0 m pc la st) rfl hcov h04 (hts _ hcI) (hC.2.1 (.castable pm_ISE pm_ISE) (by decide +kernel)) (a := ex) hce hcv hcc
    obtain ⟨t, a1, a2⟩ := kt ex G' hq1 p e s m args below meth c s₂.heap (locs ++ L) la hF hS1 hq2 hl hk hn ((({ (T.setVm vm₁) with heap := s₂.heap, slotsUsed := s₂.slotsUsed } : State).setVm s₂.vm).setVm vm') rfl (XB.noted hWn)
    have hs₂ : s₂ = ((({ (T.setVm vm₁) with heap := s₂.heap, slotsUsed := s₂.slotsUsed } : State).setVm s₂.vm).setTop (F0 m pc la st)).pushFrame (.throwing ex) := by
      have hf₂ : s₂.frames = .throwing ex :: .java (F0 m pc la st) :: rs := by
        have := hend
        rw [hrs] at this
        exact this
      refine e3.trans ?_
      rw [hf₂, State.calling_eq h.top, State.setFrames_setFrames, State.setTop_of_frames _ hrB, State.pushFrame, State.setFrames_setFrames, State.frames_setFrames]
      · rfl
      · exact State.cur_lt_of_frames hrB
    have a3 : Steps p.tables e below s₂ t := by rw [hs₂]; exact hgo _ a1
    exact ⟨t, hst1.trans a3, a2⟩
end CT
/-! a method with a handler: its contract, and the call of a static one -/
def cn_W (l : Launch) (X : pm_X) (μ : pm_M) (hh : List (Nat × Nat × Nat × Nat)) (d mc ms : Nat) (av : List Value) (G : pm_G) (Q : Option Value → pm_G → Prop) : Prop :=
  Met l μ.1 (Cond.codeWith μ.1 μ.2.1 μ.2.2.1 μ.2.2.2 hh :: pm_WS) (pm_R d mc ms) (va_Pc av (fun U => pm_C X U ∧ pm_In X G U.heap)) (pm_Q X Q) mc ms (pm_A X)
theorem cn_inW {l : Launch} {X : pm_X} {μ : pm_M} {hh : List (Nat × Nat × Nat × Nat)} {d mc ms : Nat} {av : List Value} {G : pm_G} {Q : Option Value → pm_G → Prop} (hp : plainName μ.1.cls = true) (hlen : (lg_sl av).length ≤ μ.2.2.1) (kk : ev_W l X μ d mc ms Q 0 0 0 (lv_args 0 av) [] G) (hne : pm_thr μ = false := by rfl) : cn_W l X μ hh d mc ms av G Q := by
  refine va_MetW (cc := μ.2.1) (maxL := μ.2.2.1) (ret := μ.2.2.2) (hh := hh) hp rfl ?_
  intro p e s m args below meth c s₁ B hml hv
  obtain ⟨rfl, hC, hI⟩ := hv
  have hts := atoms_spec (ws := Cond.codeWith μ.1 μ.2.1 μ.2.2.1 μ.2.2.2 hh :: pm_WS) B.pre
  have hown : s.vm.findClass μ.1.cls = some m.cls := findClass_of_methodNamed B.named
  have hnm := And.intro (name_of_methodNamed B.named B.method).1 B.named
  rw [lg_entry_eq]
  intro T hT hX
  obtain ⟨t, a1, o, b1, b2, ⟨r, G1, c1, c2, c3⟩, L, f, hL⟩ := kk p e s m _ below meth c s.heap [] _ ⟨B.exec, B.bytes, B.returns, hml, B.notSynchronized, hnm, hown, fun w hw => hts w (List.mem_cons_of_mem _ hw), hC⟩ va_S.rf hI (lv_entry av hlen) (Nat.zero_le _) (Nat.zero_le _) T hT hX
  have c4 := (c1.resolve_right (fun y => by rw [hne] at y; cases y.1)).1
  exact ⟨t, a1, o, b1, b2, ⟨r, G1, c4, c2, c3⟩, L, ⟨⟨r, c4⟩, f⟩, hL⟩
theorem ev_callSW {l : Launch} {X : pm_X} {μ ν : pm_M} {d d' mc ms k n pc N idx mc' ms' : Nat} {Q Q' : Option Value → pm_G → Prop} {ls : List (Nat × Value)} {st : List Value} {G : pm_G} {av : List Value} {hh : List (Nat × Nat × Nat × Nat)} (hd : decode μ.2.1 pc = .ok (.invokestatic idx, 3)) (hc1 : Cond.codeWith ν.1 ν.2.1 ν.2.2.1 ν.2.2.2 hh ∈ pm_WS) (hc2 : Cond.initialized ν.1.cls ∈ pm_WS) (hc3 : ν.1.cls ≠ "java/lang/invoke/MethodHandle" ∧ ν.1.cls ≠ "java/lang/invoke/VarHandle" ∧ (parseMethodDescriptor ν.1.desc).map (fun d => d.parameters.length) = some N) (hc4 : ν.2.2.1 ≤ 45) (hw : Cond.methodLink μ.1.cls idx ν.1 ∈ pm_WS) (hs : Cond.static ν.1 ∈ pm_WS) (hM : cn_W l X ν hh d' mc' ms' av G Q') (hN : av.length = N) (hdd : d' + 1 ≤ d) (hst : (st.map fun v => v.category).sum ≤ 8) (hk : k + mc' ≤ mc) (hn : n + ms' ≤ ms) (kk : ∀ r G', Q' r G' → ev_W l X μ d mc ms Q (k + mc') (n + ms') (pc + 3) ls (r.toList ++ st) G') : ev_W l X μ d mc ms Q k n pc ls (av.reverse ++ st) G := by
  intro p e s m args below meth c H locs la hF hS hI hl h1 h2
  obtain ⟨hx, hb, hr, hml, hlk, hnm, hown, hts, hC⟩ := id hF
  have hg : GoodIn pm_WS (Cond.codeWith ν.1 ν.2.1 ν.2.2.1 ν.2.2.2 hh :: pm_WS) := fun w hw' => by
    rcases List.mem_cons.mp hw' with rfl | h2
    · exact pm_goodS _ hc1
    · exact pm_goodS _ h2
  obtain ⟨rf, rl⟩ := pm_room (d := d) (d' := d') (mc := mc) (ms := ms) (mc' := mc') (ms' := ms') hdd hc4
  have hK : Back l (pm_R d mc ms) p e below s args ν.1 3 8 (PreOf (pm_R d mc ms) mc' ms' (va_Pc av (fun U => pm_C X U ∧ pm_In X G U.heap))) (PostOf (pm_Q X Q') mc' ms' (pm_A X)) :=
    va_backW (hh := hh) (bytes := ν.2.1) (maxL := ν.2.2.1) (ret := ν.2.2.2) hM pm_blind rfl rfl rf rl (pay_in hts hg) List.mem_cons_self (fun a' U hW => pay_in hts hg _ (List.mem_cons_of_mem _ hc2) a' U hW)
  refine ev_back (X := X) (Q := Q') (rest := st) (a := av.toArray) (mc := mc') (ms := ms') ?_ hS (fun r G' H1 locs1 hq hI1 hS1 => kk r G' hq p e s m args below meth c H1 locs1 la hF hS1 hI1 hl hk hn)
  intro T hT XT
  obtain ⟨mk, methM, cM, hnamed, hmethM, -, -, -, -, -, -, hsigM⟩ := Cond.codeWith_spec (hts _ hc1)
  have hstatic : methM.isStatic = true := Cond.static_spec hnamed hmethM (hts _ hs)
  obtain ⟨kP, hkP, -⟩ := className_of_methodNamed hnamed
  have hinitP : kP.init = .initialized := Cond.initialized_spec (findClass_of_methodNamed hnamed) hkP (hts _ hc2)
  have hlen : av.length = methM.sig.parameters.length := by
    have h3 := hc3.2.2
    rw [hsigM] at h3
    exact hN.trans (Option.some.inj h3).symm
  obtain ⟨vm₁, X₁, hstep₁⟩ := XT.invokestatic hx hown (hts _ hw) hnamed hmethM hstatic hkP hinitP ⟨hc3.1, hc3.2.1⟩ (g := F0 m pc la (av.reverse ++ st)) rfl (argsL := av) (rest := st) hlen rfl (by rw [hb]; exact hd)
  obtain ⟨v, ⟨U', l2, c2, s2⟩, X', ⟨g', mk', t, L, e1, e2, hq, h1', hL, h2', h3'⟩, hsteps⟩ := hK m meth c ⟨T.setVm vm₁, locs, k, n⟩ (F0 m pc la st) (.invokestatic idx) mk av.toArray X₁ rfl (by rw [hml]; exact hl.1) (by rw [hb]; exact hd) (lv_room hst) (X₁.named hnamed) ⟨hk, hn, rfl, hC.to X₁.warmed (by show va_S _ _ T.heap locs; rw [hT]; exact hS), by show pm_In X G T.heap; rw [hT]; exact hI⟩
  dsimp only [Pt.U, Pt.locs, Pt.cells, Pt.slots] at X' e1 e2 h1' h2' h3' hsteps
  subst h1'; subst h2'; subst h3'
  exact ⟨v, (T.setVm vm₁).calling g' mk' av.toArray, t, U', L, hT, X', hL, e1, e2, hq, fun target h => hstep₁ _ fun acts => by rw [doInvoke_state]; exact hsteps.trans h⟩
