/-! THE LOGIC. A world is a map from addresses to cells (arrays bear the number of their kind in pm_kt, objects that of their class in classes).
ev_W: the machine at this place of this method, with these locals, this stack and this world, comes to a return with Q. cn_M: a method's contract. -/
/-- a cell with its colour: the prover's own mark; cells of different colours lie apart -/
abbrev pm_E : Type := Nat × va_E
abbrev pm_G : Type := Nat → Option pm_E
def pm_up (G : pm_G) (a : Nat) (e : pm_E) : pm_G := fun q => if q = a then some e else G q
theorem pm_up_eq {G : pm_G} {a : Nat} {e : pm_E} : pm_up G a e a = some e := if_pos rfl
theorem pm_up_ne {G : pm_G} {a b : Nat} {e : pm_E} {x : Option pm_E} (h : b ≠ a) (hb : G b = x) : pm_up G a e b = x := (if_neg h).trans hb
theorem pm_up_up {G : pm_G} {a : Nat} {e e' : pm_E} : pm_up (pm_up G a e) a e' = pm_up G a e' := by
  funext q
  unfold pm_up
  by_cases h : q = a
  · simp [h]
  · simp [h]
def pm_D (X : pm_X) : va_G := X.1
def pm_tc (X : pm_X) : Nat → ClassId := X.2.1
def pm_e (X : pm_X) (e : va_E) : va_E := match e with
  | .inl a => .inl (pm_tc X a.1, a.2)
  | .inr o => .inr o
def pm_tys (X : pm_X) : List (ClassId × FieldType) := (List.range pm_kt.length).map fun t => (pm_tc X t, pm_kt.getD t .int)
theorem pm_ty {X : pm_X} {t : Nat} {ty : FieldType} (h : pm_kt[t]? = some ty) : (pm_tys X)[t]? = some (pm_tc X t, ty) := by
  have hl : t < pm_kt.length := (List.getElem?_eq_some_iff.mp h).1
  simp [pm_tys, List.getElem?_map, List.getElem?_range hl, List.getD, h]
def pm_In (X : pm_X) (G : pm_G) (H : Heap) : Prop := ∃ ws : va_W, va_P (pm_D X) classes ws H ∧ va_D (pm_A X) ws ∧ ∀ a e, G a = some e → (a, pm_e X e.2) ∈ ws
theorem pm_In.at {X : pm_X} {G : pm_G} {H : Heap} {a : Nat} {e : pm_E} (h : pm_In X G H) (ha : G a = some e) : va_P (pm_D X) classes [(a, pm_e X e.2)] H := by
  obtain ⟨ws, hP, -, hG⟩ := h
  obtain ⟨i, hi⟩ := List.getElem?_of_mem (hG a e ha)
  exact hP.sub [i] (by simp [hi])
theorem pm_In.put {X : pm_X} {G : pm_G} {a : Nat} {e e' : pm_E} {ws : va_W} {q0 : Nat} (hD : va_D (pm_A X) ws) (hG : ∀ a e, G a = some e → (a, pm_e X e.2) ∈ ws) (hq : ws[q0]? = some (a, pm_e X e.2)) :
    ∀ b x, pm_up G a e' b = some x → (b, pm_e X x.2) ∈ ws.set q0 (a, pm_e X e'.2) := by
  intro b x hb
  have hlt : q0 < ws.length := (List.getElem?_eq_some_iff.mp hq).1
  by_cases h : b = a
  · subst h
    rw [pm_up_eq] at hb
    cases hb
    exact List.mem_of_getElem? (i := q0) (by simp [hlt])
  · unfold pm_up at hb
    rw [if_neg h] at hb
    obtain ⟨j, hj⟩ := List.getElem?_of_mem (hG b x hb)
    refine List.mem_of_getElem? (i := j) ?_
    rw [List.getElem?_set_ne]
    · exact hj
    · intro hne
      subst hne
      rw [hq] at hj
      exact h (Prod.mk.inj (Option.some.inj hj)).1.symm
theorem pm_In.new {X : pm_X} {G : pm_G} {q : Nat} {e : pm_E} {ws : va_W} (hD : va_D (pm_A X) (ws ++ [(q, pm_e X e.2)])) (hG : ∀ a e, G a = some e → (a, pm_e X e.2) ∈ ws) :
    G q = none ∧ ∀ b x, pm_up G q e b = some x → (b, pm_e X x.2) ∈ ws ++ [(q, pm_e X e.2)] := by
  constructor
  · cases hc : G q with
    | none => rfl
    | some x =>
      exfalso
      obtain ⟨j, hj⟩ := List.getElem?_of_mem (hG q x hc)
      have hlt : j < ws.length := (List.getElem?_eq_some_iff.mp hj).1
      have h1 : (ws ++ [(q, pm_e X e.2)])[j]? = some (q, pm_e X x.2) := by rw [List.getElem?_append_left hlt]; exact hj
      have h2 : (ws ++ [(q, pm_e X e.2)])[ws.length]? = some (q, pm_e X e.2) := by simp
      have := hD.1 j ws.length _ _ h1 h2 rfl
      omega
  · intro b x hb
    by_cases h : b = q
    · subst h
      rw [pm_up_eq] at hb
      cases hb
      simp
    · unfold pm_up at hb
      rw [if_neg h] at hb
      exact List.mem_append_left _ (hG b x hb)
/-- what holds of the tables wherever a method runs -/
def pm_C (X : pm_X) (U : State) : Prop := va_K (pm_D X) classes (pm_tys X) U ∧ (∀ w ∈ pm_NW, va_Nw w U) ∧ (∀ C ∈ pm_AO, va_AO C U) ∧ pm_RO X U U.heap ∧ X.2.2.1 ≤ U.heap.size
theorem pm_NW_warm {w : Cond} (h : pm_nwk w = true) {s U : State} (hW : s.WarmedH U.vm) (hs : va_Nw w s) : va_Nw w U := by
  cases w <;> first | (simp [pm_nwk] at h; done) | exact va_Nw.warmF hW hs | exact va_Nw.warmM hW hs | exact va_Nw.warmC hW hs | exact va_Nw.warmD hW hs
theorem pm_C.to {X : pm_X} {s U : State} {locs : List Loc} (h : pm_C X s) (hW : s.WarmedH U.vm) (hS : va_S (pm_A X) s.heap U.heap locs) : pm_C X U :=
  ⟨va_K.moved hW.alike h.1, fun w hw => pm_NW_warm (pm_NW_ok w hw) hW (h.2.1 w hw), fun C hC => (h.2.2.1 C hC).moved hW.alike, pm_RO.to h.2.2.2.1 hW hS, Nat.le_trans h.2.2.2.2 hS.1⟩
theorem pm_C.calling {X : pm_X} {U : State} (g : JFrame) (mk : MethodId) (a : Array Value) (h : pm_C X U) : pm_C X (U.calling g mk a) :=
  ⟨va_K.moved (u := U) (U := U.calling g mk a) (Vm.Alike.refl U.vm) h.1, fun w hw => va_Nw.same (pm_NW_tab w hw) (u := U) (U := U.calling g mk a) rfl (h.2.1 w hw), fun C hC => (h.2.2.1 C hC).moved (u := U) (U := U.calling g mk a) (Vm.Alike.refl U.vm), pm_RO.same (u := U) (U := U.calling g mk a) rfl rfl h.2.2.2.1, h.2.2.2.2⟩
/-- name, code, number of locals, type of the answer -/
abbrev pm_M : Type := MethodName × ByteArray × Nat × Option FieldType
def pm_F (X : pm_X) (μ : pm_M) (p : Program) (s : State) (m : MethodId) (args : Array Value) (meth : Method) (c : Code) : Prop :=
  p.tables.exec = Jvm.exec ∧ c.code = μ.2.1 ∧ meth.sig.returnType = μ.2.2.2 ∧ c.maxLocals = μ.2.2.1 ∧ meth.locks = false ∧ (meth.name = μ.1.name ∧ s.methodNamed? μ.1 = some m) ∧ s.vm.findClass μ.1.cls = some m.cls ∧ (∀ w ∈ pm_WS, w.before args s = true) ∧ pm_C X s
def pm_R (d mc ms : Nat) : Room := { frames := d, cells := mc, slots := ms, locals := 64 * d }
def pm_Q (X : pm_X) (Q : Option Value → pm_G → Prop) : Array Value → State → Outcome → State → Prop := fun _ st oc t => ∃ (r : Option Value) (G : pm_G), oc = .returned r ∧ Q r G ∧ pm_In X G t.heap ∧ va_F (pm_A X) st t
/-- the one method that throws -/
def pm_thr (μ : pm_M) : Bool := μ.1.cls == "TestText" && μ.1.name == "read"
/-- how a method ends: it returns r, or (only there) it throws the object a, which r then names -/
def pm_oc (μ : pm_M) (r : Option Value) (oc : Outcome) (t : State) : Prop := (oc = .returned r ∧ (μ.2.2.2 = some .int → ∃ v, r = some (.int v))) ∨ (pm_thr μ = true ∧ ∃ a, r = some (.ref a) ∧ oc = .threw a ∧ ∃ ce, t.heap[a]? = some ce ∧ ce.vm = .none ∧ t.vm.findClass "java/lang/IllegalStateException" = some ce.cls)
def pm_P (X : pm_X) (μ : pm_M) (Q : Option Value → pm_G → Prop) : Array Value → State → Outcome → State → Prop := fun _ st oc t => ∃ (r : Option Value) (G : pm_G), pm_oc μ r oc t ∧ Q r G ∧ pm_In X G t.heap ∧ va_F (pm_A X) st t
/-- the end of a method, returned or thrown -/
def pm_MQ (X : pm_X) (μ : pm_M) (Q : Option Value → pm_G → Prop) (below : List Frame) (a : Array Value) (s : State) (mc ms : Nat) : State → Prop := fun t =>
  ∃ o, t.status = .running ∧ Ended t below o ∧ pm_P X μ Q a s o t ∧ ∃ L, (s.WarmedH t.vm ∧ s.sameButNew ({ t with vm := s.vm } : State) L mc ms) ∧ ∀ q ∈ L, pm_A X q.base
theorem pm_MQ.of {X : pm_X} {μ : pm_M} {Q : Option Value → pm_G → Prop} {below : List Frame} {a : Array Value} {s : State} {mc ms : Nat} (t : State) (h : MQ below (pm_P X μ Q) a s mc ms (pm_A X) t) : pm_MQ X μ Q below a s mc ms t := by
  obtain ⟨o, h1, h2, h3, L, h4, h5⟩ := h
  exact ⟨o, h1, h2, h3, L, h4.2, h5⟩
theorem pm_Wm {p : Program} {l : Launch} {e : Env} {R : Room} {s : State} {m : MethodId} {args : Array Value} {below : List Frame} {meth : Method} {c : Code} {H : Heap} {locs : List Loc} {cells slots : Nat} {Q Q' : State → Prop} {g : JFrame} (h : ∀ t, Q t → Q' t) (k : W p l e R s m args below meth c H locs cells slots Q g) : W p l e R s m args below meth c H locs cells slots Q' g := by
  intro T hT X
  obtain ⟨t, a, b⟩ := k T hT X
  exact ⟨t, a, h t b⟩
def ev_W (l : Launch) (X : pm_X) (μ : pm_M) (d mc ms : Nat) (Q : Option Value → pm_G → Prop) (k n pc : Nat) (ls : List (Nat × Value)) (st : List Value) (G : pm_G) : Prop :=
  ∀ (p : Program) (e : Env) (s : State) (m : MethodId) (args : Array Value) (below : List Frame) (meth : Method) (c : Code) (H : Heap) (locs : List Loc) (la : Array Slot),
    pm_F X μ p s m args meth c → va_S (pm_A X) s.heap H locs → pm_In X G H → lv_has la μ.2.2.1 ls → k ≤ mc → n ≤ ms →
    W p l e (pm_R d mc ms) s m args below meth c H locs k n (pm_MQ X μ Q below args s mc ms) (F0 m pc la st)
def cn_M (l : Launch) (X : pm_X) (μ : pm_M) (d mc ms : Nat) (av : List Value) (G : pm_G) (Q : Option Value → pm_G → Prop) : Prop :=
  Met l μ.1 (Cond.code μ.1 μ.2.1 μ.2.2.1 μ.2.2.2 :: pm_WS) (pm_R d mc ms) (va_Pc av (fun U => pm_C X U ∧ pm_In X G U.heap)) (pm_Q X Q) mc ms (pm_A X)
theorem cn_in {l : Launch} {X : pm_X} {μ : pm_M} {d mc ms : Nat} {av : List Value} {G : pm_G} {Q : Option Value → pm_G → Prop} (hp : plainName μ.1.cls = true) (hlen : (lg_sl av).length ≤ μ.2.2.1) (kk : ev_W l X μ d mc ms Q 0 0 0 (lv_args 0 av) [] G) (hne : pm_thr μ = false := by rfl) : cn_M l X μ d mc ms av G Q := by
  refine Met.ofW (cc := μ.2.1) (maxL := μ.2.2.1) (ret := μ.2.2.2) hp rfl ?_
  intro p e s m args below meth c s₁ B hml hv
  obtain ⟨rfl, hC, hI⟩ := hv
  have hts := atoms_spec (ws := Cond.code μ.1 μ.2.1 μ.2.2.1 μ.2.2.2 :: pm_WS) B.pre
  have hown : s.vm.findClass μ.1.cls = some m.cls := findClass_of_methodNamed B.named
  have hnm := And.intro (name_of_methodNamed B.named B.method).1 B.named
  rw [lg_entry_eq]
  intro T hT hX
  obtain ⟨t, a1, o, b1, b2, ⟨r, G1, c1, c2, c3⟩, L, f, hL⟩ := kk p e s m _ below meth c s.heap [] _ ⟨B.exec, B.bytes, B.returns, hml, B.notSynchronized, hnm, hown, fun w hw => hts w (List.mem_cons_of_mem _ hw), hC⟩ va_S.rf hI (lv_entry av hlen) (Nat.zero_le _) (Nat.zero_le _) T hT hX
  have c4 := (c1.resolve_right (fun y => by rw [hne] at y; cases y.1)).1
  exact ⟨t, a1, o, b1, b2, ⟨r, G1, c4, c2, c3⟩, L, ⟨⟨r, c4⟩, f⟩, hL⟩
def cn_T (l : Launch) (X : pm_X) (μ : pm_M) (d mc ms : Nat) (av : List Value) (G : pm_G) (Q : Option Value → pm_G → Prop) : Prop :=
  MetFree l μ.1 (headSpec (Cond.code μ.1 μ.2.1 μ.2.2.1 μ.2.2.2 :: pm_WS) (pm_R d mc ms)) (va_Pc av (fun U => pm_C X U ∧ pm_In X G U.heap)) (fun _ _ _ _ _ => True) (fun a st o t => pm_P X μ Q a st o t ∧ ∃ L, (st.WarmedH t.vm ∧ st.sameButNew ({ t with vm := st.vm } : State) L mc ms) ∧ ∀ q ∈ L, pm_A X q.base)
theorem cn_inT {l : Launch} {X : pm_X} {μ : pm_M} {d mc ms : Nat} {av : List Value} {G : pm_G} {Q : Option Value → pm_G → Prop} (hp : plainName μ.1.cls = true) (hlen : (lg_sl av).length ≤ μ.2.2.1) (kk : ev_W l X μ d mc ms Q 0 0 0 (lv_args 0 av) [] G) : cn_T l X μ d mc ms av G Q := by
  refine MetFree.of_bodyS (code := μ.2.1) (maxLocals := μ.2.2.1) (ret := μ.2.2.2) hp ?_ ?_
  · intro args s m h hn
    obtain ⟨meth, c, h1, h2, h3, h4, h5, h6, -, -⟩ := Cond.code_spec hn (atoms_spec (ws := Cond.code μ.1 μ.2.1 μ.2.2.1 μ.2.2.2 :: pm_WS) h _ List.mem_cons_self)
    exact ⟨meth, c, h1, h2, h3, h4, h5, h6⟩
  · intro p e s m args below meth c s₁ B hml hv _
    have hh0 : s₁.heap = s.heap := by rw [B.state]; rfl
    obtain ⟨rfl, hC, hI⟩ := hv
    have hts := atoms_spec (ws := Cond.code μ.1 μ.2.1 μ.2.2.1 μ.2.2.2 :: pm_WS) B.pre
    have hown : s.vm.findClass μ.1.cls = some m.cls := findClass_of_methodNamed B.named
    have hnm := And.intro (name_of_methodNamed B.named B.method).1 B.named
    have hw := kk p e s m _ below meth c s.heap [] _ ⟨B.exec, B.bytes, B.returns, hml, B.notSynchronized, hnm, hown, fun w hw => hts w (List.mem_cons_of_mem _ hw), hC⟩ va_S.rf hI (lv_entry av hlen) (Nat.zero_le _) (Nat.zero_le _) s₁ hh0
    rw [← lg_entry_eq] at hw
    obtain ⟨t, a1, o, b1, b2, b3⟩ := hw (Stand.of_body B)
    exact ⟨t, o, a1, b1, b2, b3⟩
/-! locals -/
def pm_lg : List (Nat × Value) → Nat → Option Value
  | [], _ => none
  | q :: l, i => if q.1 = i then some q.2 else pm_lg l i
theorem pm_lg_mem : ∀ {ls : List (Nat × Value)} {i : Nat} {v : Value}, pm_lg ls i = some v → (i, v) ∈ ls
  | [], i, v, h => by simp [pm_lg] at h
  | q :: l, i, v, h => by
    unfold pm_lg at h
    by_cases hq : q.1 = i
    · rw [if_pos hq] at h
      cases h
      subst hq
      exact List.mem_cons_self
    · rw [if_neg hq] at h
      exact List.mem_cons_of_mem _ (pm_lg_mem h)
def pm_ins : List (Nat × Value) → Nat → Value → List (Nat × Value)
  | [], i, v => [(i, v)]
  | q :: l, i, v => if i < q.1 then (i, v) :: q :: l else q :: pm_ins l i v
theorem pm_ins_mem : ∀ {l : List (Nat × Value)} {i : Nat} {v : Value} {q : Nat × Value}, q ∈ pm_ins l i v → q ∈ (i, v) :: l
  | [], i, v, q, h => h
  | a :: l, i, v, q, h => by
    unfold pm_ins at h
    by_cases hq : i < a.1
    · rw [if_pos hq] at h
      exact h
    · rw [if_neg hq] at h
      rcases List.mem_cons.mp h with h | h
      · rw [h]; exact List.mem_cons_of_mem _ List.mem_cons_self
      · rcases List.mem_cons.mp (pm_ins_mem h) with h | h
        · rw [h]; exact List.mem_cons_self
        · exact List.mem_cons_of_mem _ (List.mem_cons_of_mem _ h)
def pm_ls1 (ls : List (Nat × Value)) (i : Nat) (v : Value) : List (Nat × Value) := pm_ins (ls.filter (fun q => !(q.1 == i) && !(q.1 + 1 == i && q.2.category == 2))) i v
def pm_ls2 (ls : List (Nat × Value)) (i : Nat) (v : Value) : List (Nat × Value) := pm_ins (ls.filter (fun q => !(q.1 == i) && (!(q.1 == i + 1) && !(q.1 + 1 == i && q.2.category == 2)))) i v
theorem pm_has {la : Array Slot} {nL : Nat} {l : List (Nat × Value)} {i : Nat} {v : Value} (h : lv_has la nL ((i, v) :: l)) : lv_has la nL (pm_ins l i v) := ⟨h.1, h.2.1, fun q hq => h.2.2 q (pm_ins_mem hq)⟩
section EV
variable {l : Launch} {X : pm_X} {μ : pm_M} {d mc ms k n pc : Nat} {Q : Option Value → pm_G → Prop} {ls : List (Nat × Value)} {st : List Value} {G : pm_G}
theorem ev_keep (ks : List Nat) (kk : ev_W l X μ d mc ms Q k n pc (ls.filter (fun q => ks.contains q.1)) st G) : ev_W l X μ d mc ms Q k n pc ls st G := by
  intro p e s m args below meth c H locs la hF hS hI hl h1 h2
  exact kk p e s m args below meth c H locs la hF hS hI ⟨hl.1, hl.2.1, fun q hq => hl.2.2 q (List.mem_filter.mp hq).1⟩ h1 h2
theorem ev_eqG {G' : pm_G} (h : G = G') (kk : ev_W l X μ d mc ms Q k n pc ls st G') : ev_W l X μ d mc ms Q k n pc ls st G := h ▸ kk
theorem ev_post {Q' : Option Value → pm_G → Prop} (h : ∀ r G, Q' r G → Q r G) (kk : ev_W l X μ d mc ms Q' k n pc ls st G) : ev_W l X μ d mc ms Q k n pc ls st G := by
  intro p e s m args below meth c H locs la hF hS hI hl h1 h2 T hT hX
  obtain ⟨t, a1, o, b1, b2, ⟨r, G1, c1, c2, c3⟩, b4⟩ := kk p e s m args below meth c H locs la hF hS hI hl h1 h2 T hT hX
  exact ⟨t, a1, o, b1, b2, ⟨r, G1, c1, h r G1 c2, c3⟩, b4⟩

theorem ev_iconst {z : Int} {v : Int32} (hd : decode μ.2.1 pc = .ok (.iconst z, 1)) (hv : Int32.ofInt z = v) (kk : ev_W l X μ d mc ms Q k n (pc + 1) ls (.int v :: st) G) : ev_W l X μ d mc ms Q k n pc ls (st) G := by
  intro p e s m args below meth c H locs la hF hS hI hl h1 h2
  exact lv_iconst hF.1 hF.2.1 hd hv (kk p e s m args below meth c H locs la hF hS hI hl h1 h2)
theorem ev_bipush {z : Int} {v : Int32} (hd : decode μ.2.1 pc = .ok (.bipush z, 2)) (hv : (Int8.ofInt z).toInt32 = v) (kk : ev_W l X μ d mc ms Q k n (pc + 2) ls (.int v :: st) G) : ev_W l X μ d mc ms Q k n pc ls (st) G := by
  intro p e s m args below meth c H locs la hF hS hI hl h1 h2
  exact lv_bipush hF.1 hF.2.1 hd hv (kk p e s m args below meth c H locs la hF hS hI hl h1 h2)
theorem ev_sipush {z : Int} {v : Int32} (hd : decode μ.2.1 pc = .ok (.sipush z, 3)) (hv : (Int16.ofInt z).toInt32 = v) (kk : ev_W l X μ d mc ms Q k n (pc + 3) ls (.int v :: st) G) : ev_W l X μ d mc ms Q k n pc ls (st) G := by
  intro p e s m args below meth c H locs la hF hS hI hl h1 h2
  exact lv_sipush hF.1 hF.2.1 hd hv (kk p e s m args below meth c H locs la hF hS hI hl h1 h2)
theorem ev_lconst {z : Fin 2} {v : Int64} (hd : decode μ.2.1 pc = .ok (.lconst z, 1)) (hv : Int64.ofNat (z : Nat) = v) (kk : ev_W l X μ d mc ms Q k n (pc + 1) ls (.long v :: st) G) : ev_W l X μ d mc ms Q k n pc ls (st) G := by
  intro p e s m args below meth c H locs la hF hS hI hl h1 h2
  exact lv_lconst hF.1 hF.2.1 hd hv (kk p e s m args below meth c H locs la hF hS hI hl h1 h2)
theorem ev_null  (hd : decode μ.2.1 pc = .ok (.aconst_null, 1))  (kk : ev_W l X μ d mc ms Q k n (pc + 1) ls (.null :: st) G) : ev_W l X μ d mc ms Q k n pc ls (st) G := by
  intro p e s m args below meth c H locs la hF hS hI hl h1 h2
  exact lv_null hF.1 hF.2.1 hd (kk p e s m args below meth c H locs la hF hS hI hl h1 h2)
theorem ev_ldc {z : Nat} {v : Int32} (hd : decode μ.2.1 pc = .ok (.ldc z, 2)) (hw : Cond.constant μ.1.cls z v ∈ pm_WS) (kk : ev_W l X μ d mc ms Q k n (pc + 2) ls (.int v :: st) G) : ev_W l X μ d mc ms Q k n pc ls (st) G := by
  intro p e s m args below meth c H locs la hF hS hI hl h1 h2
  exact lv_ldc hF.1 hF.2.1 hF.2.2.2.2.2.2.1 (hF.2.2.2.2.2.2.2.1 _ hw) hd (kk p e s m args below meth c H locs la hF hS hI hl h1 h2)
theorem ev_ldcw {z : Nat} {v : Int32} (hd : decode μ.2.1 pc = .ok (.ldc_w z, 3)) (hw : Cond.constant μ.1.cls z v ∈ pm_WS) (kk : ev_W l X μ d mc ms Q k n (pc + 3) ls (.int v :: st) G) : ev_W l X μ d mc ms Q k n pc ls (st) G := by
  intro p e s m args below meth c H locs la hF hS hI hl h1 h2
  exact lv_ldcw hF.1 hF.2.1 hF.2.2.2.2.2.2.1 (hF.2.2.2.2.2.2.2.1 _ hw) hd (kk p e s m args below meth c H locs la hF hS hI hl h1 h2)
theorem ev_ldc2 {z : Nat} {v : Int64} (hd : decode μ.2.1 pc = .ok (.ldc2_w z, 3)) (hw : Cond.constantLong μ.1.cls z v ∈ pm_WS) (kk : ev_W l X μ d mc ms Q k n (pc + 3) ls (.long v :: st) G) : ev_W l X μ d mc ms Q k n pc ls (st) G := by
  intro p e s m args below meth c H locs la hF hS hI hl h1 h2
  exact lv_ldc2 hF.1 hF.2.1 hF.2.2.2.2.2.2.1 (hF.2.2.2.2.2.2.2.1 _ hw) hd (kk p e s m args below meth c H locs la hF hS hI hl h1 h2)
theorem ev_iload_n {z : Fin 4} {i : Nat} {x : Int32} (hd : decode μ.2.1 pc = .ok (.iload_n z, 1)) (hi : (z : Nat) = i) (hx : pm_lg ls i = some (.int x)) (kk : ev_W l X μ d mc ms Q k n (pc + 1) ls (.int x :: st) G) : ev_W l X μ d mc ms Q k n pc ls (st) G := by
  intro p e s m args below meth c H locs la hF hS hI hl h1 h2
  exact lv_iload_n hF.1 hF.2.1 hd hi (hl.2.2 _ (pm_lg_mem hx)) (kk p e s m args below meth c H locs la hF hS hI hl h1 h2)
theorem ev_iload {i : Nat} {x : Int32} (hd : decode μ.2.1 pc = .ok (.iload i, 2)) (hx : pm_lg ls i = some (.int x)) (kk : ev_W l X μ d mc ms Q k n (pc + 2) ls (.int x :: st) G) : ev_W l X μ d mc ms Q k n pc ls (st) G := by
  intro p e s m args below meth c H locs la hF hS hI hl h1 h2
  exact lv_iload hF.1 hF.2.1 hd (hl.2.2 _ (pm_lg_mem hx)) (kk p e s m args below meth c H locs la hF hS hI hl h1 h2)
theorem ev_istore_n {z : Fin 4} {i : Nat} {x : Int32} (hd : decode μ.2.1 pc = .ok (.istore_n z, 1)) (hi : (z : Nat) = i) (hn : i < μ.2.2.1) (kk : ev_W l X μ d mc ms Q k n (pc + 1) (pm_ls1 ls i (.int x)) st G) : ev_W l X μ d mc ms Q k n pc ls (.int x :: st) G := by
  intro p e s m args below meth c H locs la hF hS hI hl h1 h2
  exact lv_istore_n hF.1 hF.2.1 hd hi hl hn rfl (fun la hl => kk p e s m args below meth c H locs la hF hS hI (pm_has hl) h1 h2)
theorem ev_istore {i : Nat} {x : Int32} (hd : decode μ.2.1 pc = .ok (.istore i, 2)) (hn : i < μ.2.2.1) (kk : ev_W l X μ d mc ms Q k n (pc + 2) (pm_ls1 ls i (.int x)) st G) : ev_W l X μ d mc ms Q k n pc ls (.int x :: st) G := by
  intro p e s m args below meth c H locs la hF hS hI hl h1 h2
  exact lv_istore hF.1 hF.2.1 hd hl hn rfl (fun la hl => kk p e s m args below meth c H locs la hF hS hI (pm_has hl) h1 h2)
theorem ev_lload_n {z : Fin 4} {i : Nat} {x : Int64} (hd : decode μ.2.1 pc = .ok (.lload_n z, 1)) (hi : (z : Nat) = i) (hx : pm_lg ls i = some (.long x)) (kk : ev_W l X μ d mc ms Q k n (pc + 1) ls (.long x :: st) G) : ev_W l X μ d mc ms Q k n pc ls (st) G := by
  intro p e s m args below meth c H locs la hF hS hI hl h1 h2
  exact lv_lload_n hF.1 hF.2.1 hd hi (hl.2.2 _ (pm_lg_mem hx)) (kk p e s m args below meth c H locs la hF hS hI hl h1 h2)
theorem ev_lload {i : Nat} {x : Int64} (hd : decode μ.2.1 pc = .ok (.lload i, 2)) (hx : pm_lg ls i = some (.long x)) (kk : ev_W l X μ d mc ms Q k n (pc + 2) ls (.long x :: st) G) : ev_W l X μ d mc ms Q k n pc ls (st) G := by
  intro p e s m args below meth c H locs la hF hS hI hl h1 h2
  exact lv_lload hF.1 hF.2.1 hd (hl.2.2 _ (pm_lg_mem hx)) (kk p e s m args below meth c H locs la hF hS hI hl h1 h2)
theorem ev_lstore_n {z : Fin 4} {i : Nat} {x : Int64} (hd : decode μ.2.1 pc = .ok (.lstore_n z, 1)) (hi : (z : Nat) = i) (hn : i + 1 < μ.2.2.1) (kk : ev_W l X μ d mc ms Q k n (pc + 1) (pm_ls2 ls i (.long x)) st G) : ev_W l X μ d mc ms Q k n pc ls (.long x :: st) G := by
  intro p e s m args below meth c H locs la hF hS hI hl h1 h2
  exact lv_lstore_n hF.1 hF.2.1 hd hi hl hn rfl (fun la hl => kk p e s m args below meth c H locs la hF hS hI (pm_has hl) h1 h2)
theorem ev_lstore {i : Nat} {x : Int64} (hd : decode μ.2.1 pc = .ok (.lstore i, 2)) (hn : i + 1 < μ.2.2.1) (kk : ev_W l X μ d mc ms Q k n (pc + 2) (pm_ls2 ls i (.long x)) st G) : ev_W l X μ d mc ms Q k n pc ls (.long x :: st) G := by
  intro p e s m args below meth c H locs la hF hS hI hl h1 h2
  exact lv_lstore hF.1 hF.2.1 hd hl hn rfl (fun la hl => kk p e s m args below meth c H locs la hF hS hI (pm_has hl) h1 h2)
theorem ev_aload_n {z : Fin 4} {i : Nat} {x : Nat} (hd : decode μ.2.1 pc = .ok (.aload_n z, 1)) (hi : (z : Nat) = i) (hx : pm_lg ls i = some (.ref x)) (kk : ev_W l X μ d mc ms Q k n (pc + 1) ls (.ref x :: st) G) : ev_W l X μ d mc ms Q k n pc ls (st) G := by
  intro p e s m args below meth c H locs la hF hS hI hl h1 h2
  exact lv_aload_n hF.1 hF.2.1 hd hi (hl.2.2 _ (pm_lg_mem hx)) (kk p e s m args below meth c H locs la hF hS hI hl h1 h2)
theorem ev_aload {i : Nat} {x : Nat} (hd : decode μ.2.1 pc = .ok (.aload i, 2)) (hx : pm_lg ls i = some (.ref x)) (kk : ev_W l X μ d mc ms Q k n (pc + 2) ls (.ref x :: st) G) : ev_W l X μ d mc ms Q k n pc ls (st) G := by
  intro p e s m args below meth c H locs la hF hS hI hl h1 h2
  exact lv_aload hF.1 hF.2.1 hd (hl.2.2 _ (pm_lg_mem hx)) (kk p e s m args below meth c H locs la hF hS hI hl h1 h2)
theorem ev_astore_n {z : Fin 4} {i : Nat} {x : Nat} (hd : decode μ.2.1 pc = .ok (.astore_n z, 1)) (hi : (z : Nat) = i) (hn : i < μ.2.2.1) (kk : ev_W l X μ d mc ms Q k n (pc + 1) (pm_ls1 ls i (.ref x)) st G) : ev_W l X μ d mc ms Q k n pc ls (.ref x :: st) G := by
  intro p e s m args below meth c H locs la hF hS hI hl h1 h2
  exact lv_astore_n hF.1 hF.2.1 hd hi hl hn rfl (fun la hl => kk p e s m args below meth c H locs la hF hS hI (pm_has hl) h1 h2)
theorem ev_astore {i : Nat} {x : Nat} (hd : decode μ.2.1 pc = .ok (.astore i, 2)) (hn : i < μ.2.2.1) (kk : ev_W l X μ d mc ms Q k n (pc + 2) (pm_ls1 ls i (.ref x)) st G) : ev_W l X μ d mc ms Q k n pc ls (.ref x :: st) G := by
  intro p e s m args below meth c H locs la hF hS hI hl h1 h2
  exact lv_astore hF.1 hF.2.1 hd hl hn rfl (fun la hl => kk p e s m args below meth c H locs la hF hS hI (pm_has hl) h1 h2)
theorem ev_iinc {i : Nat} {z : Int} {x v : Int32} (hd : decode μ.2.1 pc = .ok (.iinc i z, 3)) (hx : pm_lg ls i = some (.int x)) (hv : x + Int32.ofInt z = v) (hn : i < μ.2.2.1) (kk : ev_W l X μ d mc ms Q k n (pc + 3) (pm_ls1 ls i (.int v)) st G) : ev_W l X μ d mc ms Q k n pc ls st G := by
  intro p e s m args below meth c H locs la hF hS hI hl h1 h2
  obtain ⟨j, hj⟩ := List.getElem?_of_mem (pm_lg_mem hx)
  exact lv_iinc hF.1 hF.2.1 hd hl hj hv hn rfl (fun la hl => kk p e s m args below meth c H locs la hF hS hI (pm_has hl) h1 h2)
theorem ev_iadd {x y : Int32} (hd : decode μ.2.1 pc = .ok (.iadd, 1))  (kk : ev_W l X μ d mc ms Q k n (pc + 1) ls (.int (x + y) :: st) G) : ev_W l X μ d mc ms Q k n pc ls (.int y :: .int x :: st) G := by
  intro p e s m args below meth c H locs la hF hS hI hl h1 h2
  exact lv_iadd hF.1 hF.2.1 hd (kk p e s m args below meth c H locs la hF hS hI hl h1 h2)
theorem ev_isub {x y : Int32} (hd : decode μ.2.1 pc = .ok (.isub, 1))  (kk : ev_W l X μ d mc ms Q k n (pc + 1) ls (.int (x - y) :: st) G) : ev_W l X μ d mc ms Q k n pc ls (.int y :: .int x :: st) G := by
  intro p e s m args below meth c H locs la hF hS hI hl h1 h2
  exact lv_isub hF.1 hF.2.1 hd (kk p e s m args below meth c H locs la hF hS hI hl h1 h2)
theorem ev_imul {x y : Int32} (hd : decode μ.2.1 pc = .ok (.imul, 1))  (kk : ev_W l X μ d mc ms Q k n (pc + 1) ls (.int (x * y) :: st) G) : ev_W l X μ d mc ms Q k n pc ls (.int y :: .int x :: st) G := by
  intro p e s m args below meth c H locs la hF hS hI hl h1 h2
  exact lv_imul hF.1 hF.2.1 hd (kk p e s m args below meth c H locs la hF hS hI hl h1 h2)
theorem ev_iand {x y : Int32} (hd : decode μ.2.1 pc = .ok (.iand, 1))  (kk : ev_W l X μ d mc ms Q k n (pc + 1) ls (.int (x &&& y) :: st) G) : ev_W l X μ d mc ms Q k n pc ls (.int y :: .int x :: st) G := by
  intro p e s m args below meth c H locs la hF hS hI hl h1 h2
  exact lv_iand hF.1 hF.2.1 hd (kk p e s m args below meth c H locs la hF hS hI hl h1 h2)
theorem ev_ior {x y : Int32} (hd : decode μ.2.1 pc = .ok (.ior, 1))  (kk : ev_W l X μ d mc ms Q k n (pc + 1) ls (.int (x ||| y) :: st) G) : ev_W l X μ d mc ms Q k n pc ls (.int y :: .int x :: st) G := by
  intro p e s m args below meth c H locs la hF hS hI hl h1 h2
  exact lv_ior hF.1 hF.2.1 hd (kk p e s m args below meth c H locs la hF hS hI hl h1 h2)
theorem ev_ixor {x y : Int32} (hd : decode μ.2.1 pc = .ok (.ixor, 1))  (kk : ev_W l X μ d mc ms Q k n (pc + 1) ls (.int (x ^^^ y) :: st) G) : ev_W l X μ d mc ms Q k n pc ls (.int y :: .int x :: st) G := by
  intro p e s m args below meth c H locs la hF hS hI hl h1 h2
  exact lv_ixor hF.1 hF.2.1 hd (kk p e s m args below meth c H locs la hF hS hI hl h1 h2)
theorem ev_ishl {x y : Int32} (hd : decode μ.2.1 pc = .ok (.ishl, 1))  (kk : ev_W l X μ d mc ms Q k n (pc + 1) ls (.int (x <<< (y &&& 31)) :: st) G) : ev_W l X μ d mc ms Q k n pc ls (.int y :: .int x :: st) G := by
  intro p e s m args below meth c H locs la hF hS hI hl h1 h2
  exact lv_ishl hF.1 hF.2.1 hd (kk p e s m args below meth c H locs la hF hS hI hl h1 h2)
theorem ev_ishr {x y : Int32} (hd : decode μ.2.1 pc = .ok (.ishr, 1))  (kk : ev_W l X μ d mc ms Q k n (pc + 1) ls (.int (x >>> (y &&& 31)) :: st) G) : ev_W l X μ d mc ms Q k n pc ls (.int y :: .int x :: st) G := by
  intro p e s m args below meth c H locs la hF hS hI hl h1 h2
  exact lv_ishr hF.1 hF.2.1 hd (kk p e s m args below meth c H locs la hF hS hI hl h1 h2)
theorem ev_idiv {x y : Int32} (hd : decode μ.2.1 pc = .ok (.idiv, 1)) (hne : ¬ y = 0) (kk : ev_W l X μ d mc ms Q k n (pc + 1) ls (.int (x / y) :: st) G) : ev_W l X μ d mc ms Q k n pc ls (.int y :: .int x :: st) G := by
  intro p e s m args below meth c H locs la hF hS hI hl h1 h2
  exact lv_idiv hF.1 hF.2.1 hd hne (kk p e s m args below meth c H locs la hF hS hI hl h1 h2)
theorem ev_irem {x y : Int32} (hd : decode μ.2.1 pc = .ok (.irem, 1)) (hne : ¬ y = 0) (kk : ev_W l X μ d mc ms Q k n (pc + 1) ls (.int (x - x / y * y) :: st) G) : ev_W l X μ d mc ms Q k n pc ls (.int y :: .int x :: st) G := by
  intro p e s m args below meth c H locs la hF hS hI hl h1 h2
  exact lv_irem hF.1 hF.2.1 hd hne (kk p e s m args below meth c H locs la hF hS hI hl h1 h2)
theorem ev_ladd {x y : Int64} (hd : decode μ.2.1 pc = .ok (.ladd, 1))  (kk : ev_W l X μ d mc ms Q k n (pc + 1) ls (.long (x + y) :: st) G) : ev_W l X μ d mc ms Q k n pc ls (.long y :: .long x :: st) G := by
  intro p e s m args below meth c H locs la hF hS hI hl h1 h2
  exact lv_ladd hF.1 hF.2.1 hd (kk p e s m args below meth c H locs la hF hS hI hl h1 h2)
theorem ev_lsub {x y : Int64} (hd : decode μ.2.1 pc = .ok (.lsub, 1))  (kk : ev_W l X μ d mc ms Q k n (pc + 1) ls (.long (x - y) :: st) G) : ev_W l X μ d mc ms Q k n pc ls (.long y :: .long x :: st) G := by
  intro p e s m args below meth c H locs la hF hS hI hl h1 h2
  exact lv_lsub hF.1 hF.2.1 hd (kk p e s m args below meth c H locs la hF hS hI hl h1 h2)
theorem ev_lmul {x y : Int64} (hd : decode μ.2.1 pc = .ok (.lmul, 1))  (kk : ev_W l X μ d mc ms Q k n (pc + 1) ls (.long (x * y) :: st) G) : ev_W l X μ d mc ms Q k n pc ls (.long y :: .long x :: st) G := by
  intro p e s m args below meth c H locs la hF hS hI hl h1 h2
  exact lv_lmul hF.1 hF.2.1 hd (kk p e s m args below meth c H locs la hF hS hI hl h1 h2)
theorem ev_land {x y : Int64} (hd : decode μ.2.1 pc = .ok (.land, 1))  (kk : ev_W l X μ d mc ms Q k n (pc + 1) ls (.long (x &&& y) :: st) G) : ev_W l X μ d mc ms Q k n pc ls (.long y :: .long x :: st) G := by
  intro p e s m args below meth c H locs la hF hS hI hl h1 h2
  exact lv_land hF.1 hF.2.1 hd (kk p e s m args below meth c H locs la hF hS hI hl h1 h2)
theorem ev_lor {x y : Int64} (hd : decode μ.2.1 pc = .ok (.lor, 1))  (kk : ev_W l X μ d mc ms Q k n (pc + 1) ls (.long (x ||| y) :: st) G) : ev_W l X μ d mc ms Q k n pc ls (.long y :: .long x :: st) G := by
  intro p e s m args below meth c H locs la hF hS hI hl h1 h2
  exact lv_lor hF.1 hF.2.1 hd (kk p e s m args below meth c H locs la hF hS hI hl h1 h2)
theorem ev_lxor {x y : Int64} (hd : decode μ.2.1 pc = .ok (.lxor, 1))  (kk : ev_W l X μ d mc ms Q k n (pc + 1) ls (.long (x ^^^ y) :: st) G) : ev_W l X μ d mc ms Q k n pc ls (.long y :: .long x :: st) G := by
  intro p e s m args below meth c H locs la hF hS hI hl h1 h2
  exact lv_lxor hF.1 hF.2.1 hd (kk p e s m args below meth c H locs la hF hS hI hl h1 h2)
theorem ev_ldiv {x y : Int64} (hd : decode μ.2.1 pc = .ok (.ldiv, 1)) (hne : ¬ y = 0) (kk : ev_W l X μ d mc ms Q k n (pc + 1) ls (.long (x / y) :: st) G) : ev_W l X μ d mc ms Q k n pc ls (.long y :: .long x :: st) G := by
  intro p e s m args below meth c H locs la hF hS hI hl h1 h2
  exact lv_ldiv hF.1 hF.2.1 hd hne (kk p e s m args below meth c H locs la hF hS hI hl h1 h2)
theorem ev_lrem {x y : Int64} (hd : decode μ.2.1 pc = .ok (.lrem, 1)) (hne : ¬ y = 0) (kk : ev_W l X μ d mc ms Q k n (pc + 1) ls (.long (x - x / y * y) :: st) G) : ev_W l X μ d mc ms Q k n pc ls (.long y :: .long x :: st) G := by
  intro p e s m args below meth c H locs la hF hS hI hl h1 h2
  exact lv_lrem hF.1 hF.2.1 hd hne (kk p e s m args below meth c H locs la hF hS hI hl h1 h2)
theorem ev_ineg {x : Int32} (hd : decode μ.2.1 pc = .ok (.ineg, 1))  (kk : ev_W l X μ d mc ms Q k n (pc + 1) ls (.int (-x) :: st) G) : ev_W l X μ d mc ms Q k n pc ls (.int x :: st) G := by
  intro p e s m args below meth c H locs la hF hS hI hl h1 h2
  exact lv_ineg hF.1 hF.2.1 hd (kk p e s m args below meth c H locs la hF hS hI hl h1 h2)
theorem ev_lneg {x : Int64} (hd : decode μ.2.1 pc = .ok (.lneg, 1))  (kk : ev_W l X μ d mc ms Q k n (pc + 1) ls (.long (-x) :: st) G) : ev_W l X μ d mc ms Q k n pc ls (.long x :: st) G := by
  intro p e s m args below meth c H locs la hF hS hI hl h1 h2
  exact lv_lneg hF.1 hF.2.1 hd (kk p e s m args below meth c H locs la hF hS hI hl h1 h2)
theorem ev_i2l {x : Int32} (hd : decode μ.2.1 pc = .ok (.i2l, 1))  (kk : ev_W l X μ d mc ms Q k n (pc + 1) ls (.long (x.toInt64) :: st) G) : ev_W l X μ d mc ms Q k n pc ls (.int x :: st) G := by
  intro p e s m args below meth c H locs la hF hS hI hl h1 h2
  exact lv_i2l hF.1 hF.2.1 hd rfl (kk p e s m args below meth c H locs la hF hS hI hl h1 h2)
theorem ev_l2i {x : Int64} (hd : decode μ.2.1 pc = .ok (.l2i, 1))  (kk : ev_W l X μ d mc ms Q k n (pc + 1) ls (.int (x.toInt32) :: st) G) : ev_W l X μ d mc ms Q k n pc ls (.long x :: st) G := by
  intro p e s m args below meth c H locs la hF hS hI hl h1 h2
  exact lv_l2i hF.1 hF.2.1 hd rfl (kk p e s m args below meth c H locs la hF hS hI hl h1 h2)
theorem ev_i2b {x : Int32} (hd : decode μ.2.1 pc = .ok (.i2b, 1))  (kk : ev_W l X μ d mc ms Q k n (pc + 1) ls (.int (x.toInt8.toInt32) :: st) G) : ev_W l X μ d mc ms Q k n pc ls (.int x :: st) G := by
  intro p e s m args below meth c H locs la hF hS hI hl h1 h2
  exact lv_i2b hF.1 hF.2.1 hd rfl (kk p e s m args below meth c H locs la hF hS hI hl h1 h2)
theorem ev_i2s {x : Int32} (hd : decode μ.2.1 pc = .ok (.i2s, 1))  (kk : ev_W l X μ d mc ms Q k n (pc + 1) ls (.int (x.toInt16.toInt32) :: st) G) : ev_W l X μ d mc ms Q k n pc ls (.int x :: st) G := by
  intro p e s m args below meth c H locs la hF hS hI hl h1 h2
  exact lv_i2s hF.1 hF.2.1 hd rfl (kk p e s m args below meth c H locs la hF hS hI hl h1 h2)
theorem ev_i2c {x : Int32} (hd : decode μ.2.1 pc = .ok (.i2c, 1))  (kk : ev_W l X μ d mc ms Q k n (pc + 1) ls (.int ((x.toUInt32 % 65536).toInt32) :: st) G) : ev_W l X μ d mc ms Q k n pc ls (.int x :: st) G := by
  intro p e s m args below meth c H locs la hF hS hI hl h1 h2
  exact lv_i2c hF.1 hF.2.1 hd rfl (kk p e s m args below meth c H locs la hF hS hI hl h1 h2)
theorem ev_iushr {x y : Int32} (hd : decode μ.2.1 pc = .ok (.iushr, 1))  (kk : ev_W l X μ d mc ms Q k n (pc + 1) ls (.int ((x.toUInt32 >>> (y.toUInt32 &&& Int32.toUInt32 31)).toInt32) :: st) G) : ev_W l X μ d mc ms Q k n pc ls (.int y :: .int x :: st) G := by
  intro p e s m args below meth c H locs la hF hS hI hl h1 h2
  exact lv_iushr hF.1 hF.2.1 hd rfl (kk p e s m args below meth c H locs la hF hS hI hl h1 h2)
theorem ev_lushr {x : Int64} {y : Int32} (hd : decode μ.2.1 pc = .ok (.lushr, 1))  (kk : ev_W l X μ d mc ms Q k n (pc + 1) ls (.long ((x.toUInt64 >>> (y.toInt64.toUInt64 &&& Int64.toUInt64 63)).toInt64) :: st) G) : ev_W l X μ d mc ms Q k n pc ls (.int y :: .long x :: st) G := by
  intro p e s m args below meth c H locs la hF hS hI hl h1 h2
  exact lv_lushr hF.1 hF.2.1 hd rfl (kk p e s m args below meth c H locs la hF hS hI hl h1 h2)
theorem ev_lshl {x : Int64} {y : Int32} (hd : decode μ.2.1 pc = .ok (.lshl, 1))  (kk : ev_W l X μ d mc ms Q k n (pc + 1) ls (.long (x <<< (y.toInt64 &&& 63)) :: st) G) : ev_W l X μ d mc ms Q k n pc ls (.int y :: .long x :: st) G := by
  intro p e s m args below meth c H locs la hF hS hI hl h1 h2
  exact lv_lshl hF.1 hF.2.1 hd rfl (kk p e s m args below meth c H locs la hF hS hI hl h1 h2)
theorem ev_lshr {x : Int64} {y : Int32} (hd : decode μ.2.1 pc = .ok (.lshr, 1))  (kk : ev_W l X μ d mc ms Q k n (pc + 1) ls (.long (x >>> (y.toInt64 &&& 63)) :: st) G) : ev_W l X μ d mc ms Q k n pc ls (.int y :: .long x :: st) G := by
  intro p e s m args below meth c H locs la hF hS hI hl h1 h2
  exact lv_lshr hF.1 hF.2.1 hd rfl (kk p e s m args below meth c H locs la hF hS hI hl h1 h2)
theorem ev_lcmp {x y : Int64} (hd : decode μ.2.1 pc = .ok (.lcmp, 1))  (kk : ev_W l X μ d mc ms Q k n (pc + 1) ls (.int (lg_cmp x y) :: st) G) : ev_W l X μ d mc ms Q k n pc ls (.long y :: .long x :: st) G := by
  intro p e s m args below meth c H locs la hF hS hI hl h1 h2
  exact W.lcmp hF.1 hF.2.1 hd (kk p e s m args below meth c H locs la hF hS hI hl h1 h2)
theorem ev_dup {a : Value} (hd : decode μ.2.1 pc = .ok (.dup, 1)) (ha : a.category = 1) (kk : ev_W l X μ d mc ms Q k n (pc + 1) ls (a :: a :: st) G) : ev_W l X μ d mc ms Q k n pc ls (a :: st) G := by
  intro p e s m args below meth c H locs la hF hS hI hl h1 h2
  exact lv_dup hF.1 hF.2.1 hd ha (kk p e s m args below meth c H locs la hF hS hI hl h1 h2)
theorem ev_pop {a : Value} (hd : decode μ.2.1 pc = .ok (.pop, 1)) (ha : a.category = 1) (kk : ev_W l X μ d mc ms Q k n (pc + 1) ls (st) G) : ev_W l X μ d mc ms Q k n pc ls (a :: st) G := by
  intro p e s m args below meth c H locs la hF hS hI hl h1 h2
  exact lv_pop hF.1 hF.2.1 hd ha (kk p e s m args below meth c H locs la hF hS hI hl h1 h2)
theorem ev_dup_x1 {a b : Value} (hd : decode μ.2.1 pc = .ok (.dup_x1, 1)) (ha : a.category = 1) (hb : b.category = 1) (kk : ev_W l X μ d mc ms Q k n (pc + 1) ls (a :: b :: a :: st) G) : ev_W l X μ d mc ms Q k n pc ls (a :: b :: st) G := by
  intro p e s m args below meth c H locs la hF hS hI hl h1 h2
  exact lv_dup_x1 hF.1 hF.2.1 hd ha hb (kk p e s m args below meth c H locs la hF hS hI hl h1 h2)
theorem ev_dup_x2 {a b f : Value} (hd : decode μ.2.1 pc = .ok (.dup_x2, 1)) (ha : a.category = 1) (hb : b.category = 1) (hf : f.category = 1) (kk : ev_W l X μ d mc ms Q k n (pc + 1) ls (a :: b :: f :: a :: st) G) : ev_W l X μ d mc ms Q k n pc ls (a :: b :: f :: st) G := by
  intro p e s m args below meth c H locs la hF hS hI hl h1 h2
  exact lv_dup_x2 hF.1 hF.2.1 hd ha hb hf (kk p e s m args below meth c H locs la hF hS hI hl h1 h2)
theorem ev_dup2 {a b : Value} (hd : decode μ.2.1 pc = .ok (.dup2, 1)) (ha : a.category = 1) (hb : b.category = 1) (kk : ev_W l X μ d mc ms Q k n (pc + 1) ls (a :: b :: a :: b :: st) G) : ev_W l X μ d mc ms Q k n pc ls (a :: b :: st) G := by
  intro p e s m args below meth c H locs la hF hS hI hl h1 h2
  exact lv_dup2_11 hF.1 hF.2.1 hd ha hb (kk p e s m args below meth c H locs la hF hS hI hl h1 h2)
theorem ev_dup2l {a : Value} (hd : decode μ.2.1 pc = .ok (.dup2, 1)) (ha : a.category = 2) (kk : ev_W l X μ d mc ms Q k n (pc + 1) ls (a :: a :: st) G) : ev_W l X μ d mc ms Q k n pc ls (a :: st) G := by
  intro p e s m args below meth c H locs la hF hS hI hl h1 h2
  exact lv_dup2_2 hF.1 hF.2.1 hd ha (kk p e s m args below meth c H locs la hF hS hI hl h1 h2)
theorem ev_pop2l {a : Value} (hd : decode μ.2.1 pc = .ok (.pop2, 1)) (ha : a.category = 2) (kk : ev_W l X μ d mc ms Q k n (pc + 1) ls (st) G) : ev_W l X μ d mc ms Q k n pc ls (a :: st) G := by
  intro p e s m args below meth c H locs la hF hS hI hl h1 h2
  exact lv_pop2_2 hF.1 hF.2.1 hd ha (kk p e s m args below meth c H locs la hF hS hI hl h1 h2)
theorem ev_dup2_x1l {a b : Value} (hd : decode μ.2.1 pc = .ok (.dup2_x1, 1)) (ha : a.category = 2) (hb : b.category = 1) (kk : ev_W l X μ d mc ms Q k n (pc + 1) ls (a :: b :: a :: st) G) : ev_W l X μ d mc ms Q k n pc ls (a :: b :: st) G := by
  intro p e s m args below meth c H locs la hF hS hI hl h1 h2
  exact lv_dup2_x1_2 hF.1 hF.2.1 hd ha hb (kk p e s m args below meth c H locs la hF hS hI hl h1 h2)
theorem ev_dup2_x2l {a b f : Value} (hd : decode μ.2.1 pc = .ok (.dup2_x2, 1)) (ha : a.category = 2) (hb : b.category = 1) (hf : f.category = 1) (kk : ev_W l X μ d mc ms Q k n (pc + 1) ls (a :: b :: f :: a :: st) G) : ev_W l X μ d mc ms Q k n pc ls (a :: b :: f :: st) G := by
  intro p e s m args below meth c H locs la hF hS hI hl h1 h2
  exact lv_dup2_x2_2 hF.1 hF.2.1 hd ha hb hf (kk p e s m args below meth c H locs la hF hS hI hl h1 h2)
theorem ev_if_eq {x : Int32} {off : Int} (tgt : Nat) (hd : decode μ.2.1 pc = .ok (.ifCond .eq off, 3)) (ht : (pc : Int) + off = (tgt : Int)) (kt : x = 0 → ev_W l X μ d mc ms Q k n tgt ls st G) (kf : ¬ x = 0 → ev_W l X μ d mc ms Q k n (pc + 3) ls st G) : ev_W l X μ d mc ms Q k n pc ls (.int x :: st) G := by
  intro p e s m args below meth c H locs la hF hS hI hl h1 h2
  exact lv_if_eq hF.1 hF.2.1 hd ht (fun h => kt h p e s m args below meth c H locs la hF hS hI hl h1 h2) (fun h => kf h p e s m args below meth c H locs la hF hS hI hl h1 h2)
theorem ev_icmp_eq {x y : Int32} {off : Int} (tgt : Nat) (hd : decode μ.2.1 pc = .ok (.if_icmp .eq off, 3)) (ht : (pc : Int) + off = (tgt : Int)) (kt : x = y → ev_W l X μ d mc ms Q k n tgt ls st G) (kf : ¬ x = y → ev_W l X μ d mc ms Q k n (pc + 3) ls st G) : ev_W l X μ d mc ms Q k n pc ls (.int y :: .int x :: st) G := by
  intro p e s m args below meth c H locs la hF hS hI hl h1 h2
  exact lv_icmp_eq hF.1 hF.2.1 hd ht (fun h => kt h p e s m args below meth c H locs la hF hS hI hl h1 h2) (fun h => kf h p e s m args below meth c H locs la hF hS hI hl h1 h2)
theorem ev_if_ne {x : Int32} {off : Int} (tgt : Nat) (hd : decode μ.2.1 pc = .ok (.ifCond .ne off, 3)) (ht : (pc : Int) + off = (tgt : Int)) (kt : ¬ x = 0 → ev_W l X μ d mc ms Q k n tgt ls st G) (kf : x = 0 → ev_W l X μ d mc ms Q k n (pc + 3) ls st G) : ev_W l X μ d mc ms Q k n pc ls (.int x :: st) G := by
  intro p e s m args below meth c H locs la hF hS hI hl h1 h2
  exact lv_if_ne hF.1 hF.2.1 hd ht (fun h => kt h p e s m args below meth c H locs la hF hS hI hl h1 h2) (fun h => kf h p e s m args below meth c H locs la hF hS hI hl h1 h2)
theorem ev_icmp_ne {x y : Int32} {off : Int} (tgt : Nat) (hd : decode μ.2.1 pc = .ok (.if_icmp .ne off, 3)) (ht : (pc : Int) + off = (tgt : Int)) (kt : ¬ x = y → ev_W l X μ d mc ms Q k n tgt ls st G) (kf : x = y → ev_W l X μ d mc ms Q k n (pc + 3) ls st G) : ev_W l X μ d mc ms Q k n pc ls (.int y :: .int x :: st) G := by
  intro p e s m args below meth c H locs la hF hS hI hl h1 h2
  exact lv_icmp_ne hF.1 hF.2.1 hd ht (fun h => kt h p e s m args below meth c H locs la hF hS hI hl h1 h2) (fun h => kf h p e s m args below meth c H locs la hF hS hI hl h1 h2)
theorem ev_if_lt {x : Int32} {off : Int} (tgt : Nat) (hd : decode μ.2.1 pc = .ok (.ifCond .lt off, 3)) (ht : (pc : Int) + off = (tgt : Int)) (kt : x < 0 → ev_W l X μ d mc ms Q k n tgt ls st G) (kf : ¬ x < 0 → ev_W l X μ d mc ms Q k n (pc + 3) ls st G) : ev_W l X μ d mc ms Q k n pc ls (.int x :: st) G := by
  intro p e s m args below meth c H locs la hF hS hI hl h1 h2
  exact lv_if_lt hF.1 hF.2.1 hd ht (fun h => kt h p e s m args below meth c H locs la hF hS hI hl h1 h2) (fun h => kf h p e s m args below meth c H locs la hF hS hI hl h1 h2)
theorem ev_icmp_lt {x y : Int32} {off : Int} (tgt : Nat) (hd : decode μ.2.1 pc = .ok (.if_icmp .lt off, 3)) (ht : (pc : Int) + off = (tgt : Int)) (kt : x < y → ev_W l X μ d mc ms Q k n tgt ls st G) (kf : ¬ x < y → ev_W l X μ d mc ms Q k n (pc + 3) ls st G) : ev_W l X μ d mc ms Q k n pc ls (.int y :: .int x :: st) G := by
  intro p e s m args below meth c H locs la hF hS hI hl h1 h2
  exact lv_icmp_lt hF.1 hF.2.1 hd ht (fun h => kt h p e s m args below meth c H locs la hF hS hI hl h1 h2) (fun h => kf h p e s m args below meth c H locs la hF hS hI hl h1 h2)
theorem ev_if_ge {x : Int32} {off : Int} (tgt : Nat) (hd : decode μ.2.1 pc = .ok (.ifCond .ge off, 3)) (ht : (pc : Int) + off = (tgt : Int)) (kt : 0 ≤ x → ev_W l X μ d mc ms Q k n tgt ls st G) (kf : ¬ 0 ≤ x → ev_W l X μ d mc ms Q k n (pc + 3) ls st G) : ev_W l X μ d mc ms Q k n pc ls (.int x :: st) G := by
  intro p e s m args below meth c H locs la hF hS hI hl h1 h2
  exact lv_if_ge hF.1 hF.2.1 hd ht (fun h => kt h p e s m args below meth c H locs la hF hS hI hl h1 h2) (fun h => kf h p e s m args below meth c H locs la hF hS hI hl h1 h2)
theorem ev_icmp_ge {x y : Int32} {off : Int} (tgt : Nat) (hd : decode μ.2.1 pc = .ok (.if_icmp .ge off, 3)) (ht : (pc : Int) + off = (tgt : Int)) (kt : y ≤ x → ev_W l X μ d mc ms Q k n tgt ls st G) (kf : ¬ y ≤ x → ev_W l X μ d mc ms Q k n (pc + 3) ls st G) : ev_W l X μ d mc ms Q k n pc ls (.int y :: .int x :: st) G := by
  intro p e s m args below meth c H locs la hF hS hI hl h1 h2
  exact lv_icmp_ge hF.1 hF.2.1 hd ht (fun h => kt h p e s m args below meth c H locs la hF hS hI hl h1 h2) (fun h => kf h p e s m args below meth c H locs la hF hS hI hl h1 h2)
theorem ev_if_gt {x : Int32} {off : Int} (tgt : Nat) (hd : decode μ.2.1 pc = .ok (.ifCond .gt off, 3)) (ht : (pc : Int) + off = (tgt : Int)) (kt : 0 < x → ev_W l X μ d mc ms Q k n tgt ls st G) (kf : ¬ 0 < x → ev_W l X μ d mc ms Q k n (pc + 3) ls st G) : ev_W l X μ d mc ms Q k n pc ls (.int x :: st) G := by
  intro p e s m args below meth c H locs la hF hS hI hl h1 h2
  exact lv_if_gt hF.1 hF.2.1 hd ht (fun h => kt h p e s m args below meth c H locs la hF hS hI hl h1 h2) (fun h => kf h p e s m args below meth c H locs la hF hS hI hl h1 h2)
theorem ev_icmp_gt {x y : Int32} {off : Int} (tgt : Nat) (hd : decode μ.2.1 pc = .ok (.if_icmp .gt off, 3)) (ht : (pc : Int) + off = (tgt : Int)) (kt : y < x → ev_W l X μ d mc ms Q k n tgt ls st G) (kf : ¬ y < x → ev_W l X μ d mc ms Q k n (pc + 3) ls st G) : ev_W l X μ d mc ms Q k n pc ls (.int y :: .int x :: st) G := by
  intro p e s m args below meth c H locs la hF hS hI hl h1 h2
  exact lv_icmp_gt hF.1 hF.2.1 hd ht (fun h => kt h p e s m args below meth c H locs la hF hS hI hl h1 h2) (fun h => kf h p e s m args below meth c H locs la hF hS hI hl h1 h2)
theorem ev_if_le {x : Int32} {off : Int} (tgt : Nat) (hd : decode μ.2.1 pc = .ok (.ifCond .le off, 3)) (ht : (pc : Int) + off = (tgt : Int)) (kt : x ≤ 0 → ev_W l X μ d mc ms Q k n tgt ls st G) (kf : ¬ x ≤ 0 → ev_W l X μ d mc ms Q k n (pc + 3) ls st G) : ev_W l X μ d mc ms Q k n pc ls (.int x :: st) G := by
  intro p e s m args below meth c H locs la hF hS hI hl h1 h2
  exact lv_if_le hF.1 hF.2.1 hd ht (fun h => kt h p e s m args below meth c H locs la hF hS hI hl h1 h2) (fun h => kf h p e s m args below meth c H locs la hF hS hI hl h1 h2)
theorem ev_icmp_le {x y : Int32} {off : Int} (tgt : Nat) (hd : decode μ.2.1 pc = .ok (.if_icmp .le off, 3)) (ht : (pc : Int) + off = (tgt : Int)) (kt : x ≤ y → ev_W l X μ d mc ms Q k n tgt ls st G) (kf : ¬ x ≤ y → ev_W l X μ d mc ms Q k n (pc + 3) ls st G) : ev_W l X μ d mc ms Q k n pc ls (.int y :: .int x :: st) G := by
  intro p e s m args below meth c H locs la hF hS hI hl h1 h2
  exact lv_icmp_le hF.1 hF.2.1 hd ht (fun h => kt h p e s m args below meth c H locs la hF hS hI hl h1 h2) (fun h => kf h p e s m args below meth c H locs la hF hS hI hl h1 h2)
theorem ev_acmp_eq {rx ry : Option Nat} {off : Int} (tgt : Nat) (hd : decode μ.2.1 pc = .ok (.if_acmp .eq off, 3)) (ht : (pc : Int) + off = (tgt : Int)) (kt : rx = ry → ev_W l X μ d mc ms Q k n tgt ls st G) (kf : ¬ rx = ry → ev_W l X μ d mc ms Q k n (pc + 3) ls st G) : ev_W l X μ d mc ms Q k n pc ls (va_rf ry :: va_rf rx :: st) G := by
  intro p e s m args below meth c H locs la hF hS hI hl h1 h2
  exact lv_acmp_eq hF.1 hF.2.1 hd ht (fun h => kt h p e s m args below meth c H locs la hF hS hI hl h1 h2) (fun h => kf h p e s m args below meth c H locs la hF hS hI hl h1 h2)
theorem ev_acmp_ne {rx ry : Option Nat} {off : Int} (tgt : Nat) (hd : decode μ.2.1 pc = .ok (.if_acmp .ne off, 3)) (ht : (pc : Int) + off = (tgt : Int)) (kt : ¬ rx = ry → ev_W l X μ d mc ms Q k n tgt ls st G) (kf : rx = ry → ev_W l X μ d mc ms Q k n (pc + 3) ls st G) : ev_W l X μ d mc ms Q k n pc ls (va_rf ry :: va_rf rx :: st) G := by
  intro p e s m args below meth c H locs la hF hS hI hl h1 h2
  exact lv_acmp_ne hF.1 hF.2.1 hd ht (fun h => kt h p e s m args below meth c H locs la hF hS hI hl h1 h2) (fun h => kf h p e s m args below meth c H locs la hF hS hI hl h1 h2)
theorem ev_goto {off : Int} (tgt : Nat) (hd : decode μ.2.1 pc = .ok (.goto off, 3)) (ht : (pc : Int) + off = (tgt : Int)) (kk : ev_W l X μ d mc ms Q k n tgt ls st G) : ev_W l X μ d mc ms Q k n pc ls st G := by
  intro p e s m args below meth c H locs la hF hS hI hl h1 h2
  exact lv_goto hF.1 hF.2.1 hd ht (kk p e s m args below meth c H locs la hF hS hI hl h1 h2)
theorem ev_ifnull {off : Int} {r : Option Nat} (tgt : Nat) (hd : decode μ.2.1 pc = .ok (.ifnull off, 3)) (ht : (pc : Int) + off = (tgt : Int)) (kt : r = none → ev_W l X μ d mc ms Q k n tgt ls st G) (kf : ∀ a, r = some a → ev_W l X μ d mc ms Q k n (pc + 3) ls st G) : ev_W l X μ d mc ms Q k n pc ls (va_rf r :: st) G := by
  intro p e s m args below meth c H locs la hF hS hI hl h1 h2
  cases r with
  | none => exact lv_ifnullN hF.1 hF.2.1 hd ht (kt rfl p e s m args below meth c H locs la hF hS hI hl h1 h2)
  | some a => exact lv_ifnull hF.1 hF.2.1 hd (kf a rfl p e s m args below meth c H locs la hF hS hI hl h1 h2)
theorem ev_ifnonnull {off : Int} {r : Option Nat} (tgt : Nat) (hd : decode μ.2.1 pc = .ok (.ifnonnull off, 3)) (ht : (pc : Int) + off = (tgt : Int)) (kt : ∀ a, r = some a → ev_W l X μ d mc ms Q k n tgt ls st G) (kf : r = none → ev_W l X μ d mc ms Q k n (pc + 3) ls st G) : ev_W l X μ d mc ms Q k n pc ls (va_rf r :: st) G := by
  intro p e s m args below meth c H locs la hF hS hI hl h1 h2
  cases r with
  | none => exact lv_ifnonnullN hF.1 hF.2.1 hd (kf rfl p e s m args below meth c H locs la hF hS hI hl h1 h2)
  | some a => exact lv_ifnonnull hF.1 hF.2.1 hd ht (kt a rfl p e s m args below meth c H locs la hF hS hI hl h1 h2)
theorem ev_lookup {dflt : Int} {ps : Array (Int × Int)} {len : Nat} {x : Int32} {off : Int} (tgt : Nat) (hd : decode μ.2.1 pc = .ok (.lookupswitch dflt ps, len)) (hp : (ps.toList.zip (ps.toList.drop 1)).all (fun (a, next) => a.1 < next.1) = true) (ho : Op.lookupswitch.offset ps.toList dflt x.toInt = off) (ht : (pc : Int) + off = (tgt : Int)) (kk : ev_W l X μ d mc ms Q k n tgt ls st G) : ev_W l X μ d mc ms Q k n pc ls (.int x :: st) G := by
  intro p e s m args below meth c H locs la hF hS hI hl h1 h2
  exact lv_lookup hF.1 hF.2.1 hd hp ho ht (kk p e s m args below meth c H locs la hF hS hI hl h1 h2)
theorem ev_tableOut {dflt lo hi : Int} {offs : Array Int} {len : Nat} {x : Int32} (tgt : Nat) (hd : decode μ.2.1 pc = .ok (.tableswitch dflt lo hi offs, len)) (h : x.toInt < lo ∨ hi < x.toInt) (ht : (pc : Int) + dflt = (tgt : Int)) (kk : ev_W l X μ d mc ms Q k n tgt ls st G) : ev_W l X μ d mc ms Q k n pc ls (.int x :: st) G := by
  intro p e s m args below meth c H locs la hF hS hI hl h1 h2
  exact lv_tableOut hF.1 hF.2.1 hd h ht (kk p e s m args below meth c H locs la hF hS hI hl h1 h2)
theorem ev_tableIn {dflt lo hi : Int} {offs : Array Int} {len : Nat} {x : Int32} {off : Int} (tgt : Nat) (hd : decode μ.2.1 pc = .ok (.tableswitch dflt lo hi offs, len)) (ha : ¬ x.toInt < lo) (hb : ¬ hi < x.toInt) (ho : offs[(x.toInt - lo).toNat]? = some off) (ht : (pc : Int) + off = (tgt : Int)) (kk : ev_W l X μ d mc ms Q k n tgt ls st G) : ev_W l X μ d mc ms Q k n pc ls (.int x :: st) G := by
  intro p e s m args below meth c H locs la hF hS hI hl h1 h2
  exact lv_tableIn hF.1 hF.2.1 hd ha hb ho ht (kk p e s m args below meth c H locs la hF hS hI hl h1 h2)
theorem ev_iret {v : Int32} (hd : decode μ.2.1 pc = .ok (.ireturn, 1)) (hr : μ.2.2.2 = some .int) (hq : Q (some (.int v)) G) : ev_W l X μ d mc ms Q k n pc ls [.int v] G := by
  intro p e s m args below meth c H locs la hF hS hI hl h1 h2
  refine W.widen (k := mc) (n := ms) h1 h2 ?_
  exact pm_Wm pm_MQ.of (W.iret (v := v) hF.1 hF.2.1 (hF.2.2.1.trans hr) (fun t ht hW => ⟨_, _, Or.inl ⟨rfl, fun _ => ⟨v, rfl⟩⟩, hq, by rw [ht]; exact hI, hS.F ht⟩) hS.2.2 hd hF.2.2.2.2.1)
theorem ev_zret {v : Int32} {ty : FieldType} (hd : decode μ.2.1 pc = .ok (.ireturn, 1)) (hr : μ.2.2.2 = some ty) (hn : narrow ty (.int v) = .int v) (hq : Q (some (.int v)) G) : ev_W l X μ d mc ms Q k n pc ls [.int v] G := by
  intro p e s m args below meth c H locs la hF hS hI hl h1 h2
  refine W.widen (k := mc) (n := ms) h1 h2 ?_
  exact pm_Wm pm_MQ.of (W.zret (v := v) hF.1 hF.2.1 (hF.2.2.1.trans hr) hn (fun t ht hW => ⟨_, _, Or.inl ⟨rfl, fun _ => ⟨v, rfl⟩⟩, hq, by rw [ht]; exact hI, hS.F ht⟩) hS.2.2 hd hF.2.2.2.2.1)
theorem ev_lret {v : Int64} (hd : decode μ.2.1 pc = .ok (.lreturn, 1)) (hr : μ.2.2.2 = some .long) (hq : Q (some (.long v)) G) : ev_W l X μ d mc ms Q k n pc ls [.long v] G := by
  intro p e s m args below meth c H locs la hF hS hI hl h1 h2
  refine W.widen (k := mc) (n := ms) h1 h2 ?_
  exact pm_Wm pm_MQ.of (W.lret (v := v) hF.1 hF.2.1 (hF.2.2.1.trans hr) (fun t ht hW => ⟨_, _, Or.inl ⟨rfl, fun z => by rw [hr] at z; cases z⟩, hq, by rw [ht]; exact hI, hS.F ht⟩) hS.2.2 hd hF.2.2.2.2.1)
theorem ev_aret {v : Value} {rt : FieldType} (hd : decode μ.2.1 pc = .ok (.areturn, 1)) (hr : μ.2.2.2 = some rt) (hrt : (∃ n, rt = .object n) ∨ ∃ t, rt = .array t) (hv : v = .null ∨ ∃ a, v = .ref a) (hq : Q (some v) G) : ev_W l X μ d mc ms Q k n pc ls [v] G := by
  intro p e s m args below meth c H locs la hF hS hI hl h1 h2
  refine W.widen (k := mc) (n := ms) h1 h2 ?_
  exact pm_Wm pm_MQ.of (W.aret (v := v) hF.1 hF.2.1 (hF.2.2.1.trans hr) hrt hv (fun t ht hW => ⟨_, _, Or.inl ⟨rfl, fun z => by rw [hr] at z; rcases hrt with ⟨_, y⟩ | ⟨_, y⟩ <;> (rw [y] at z; cases z)⟩, hq, by rw [ht]; exact hI, hS.F ht⟩) hS.2.2 hd hF.2.2.2.2.1)
theorem ev_vret (hd : decode μ.2.1 pc = .ok (.return_, 1)) (hr : μ.2.2.2 = none) (hq : Q none G) : ev_W l X μ d mc ms Q k n pc ls [] G := by
  intro p e s m args below meth c H locs la hF hS hI hl h1 h2
  refine W.widen (k := mc) (n := ms) h1 h2 ?_
  exact pm_Wm pm_MQ.of (W.vret hF.1 hF.2.1 (hF.2.2.1.trans hr) (fun t ht hW => ⟨_, _, Or.inl ⟨rfl, fun z => by rw [hr] at z; cases z⟩, hq, by rw [ht]; exact hI, hS.F ht⟩) hS.2.2 hd hF.2.2.2.2.1)
end EV
