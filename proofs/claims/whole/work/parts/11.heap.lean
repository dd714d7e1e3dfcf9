/-- the pool's entry idx of class own is field j of class ci -/
def pm_fok (own : String) (idx ci j : Nat) (ty : FieldType) (fin : Bool) : Prop := ∃ (C : String) (T : u_T) (N : Nat) (ty0 : Nat → FieldType) (ref : String), classes[ci]? = some (C, T, N) ∧ j < N ∧ (∀ w ∈ u_ws C T N, w ∈ pm_WS) ∧
  (∀ a, a < N → parseFieldDescriptor (T a).2.2.1 = some (ty0 a)) ∧ (∀ a, a < N → ∀ b, b < N → a ≠ b → (T a).2.1 ≠ (T b).2.1) ∧ parseFieldDescriptor (T j).2.2.1 = some ty ∧ (T j).2.2.2 = fin ∧
  (Cond.fieldLink own idx ref (T j).2.1 (T j).2.2.1 ∈ pm_WS ∨ ∃ host, Cond.fieldLinkNest own idx ref (T j).2.1 (T j).2.2.1 host ∈ pm_NW) ∧ (ref = (T j).1 ∨ Cond.sameField ref (T j).1 (T j).2.1 (T j).2.2.1 ∈ pm_WS) ∧ ((T j).1 = own → Cond.fieldLink own idx ref (T j).2.1 (T j).2.2.1 ∈ pm_WS)
/-- the pool's entry idx of class own is the class ci, whose new objects have N fields, at first fs -/
def pm_nok (own : String) (idx ci N : Nat) (fs : List Value) : Prop := ∃ (C : String) (T : u_T) (ty0 : Nat → FieldType), classes[ci]? = some (C, T, N) ∧ (∀ w ∈ u_ws C T N, w ∈ pm_WS) ∧ (∀ a, a < N → parseFieldDescriptor (T a).2.2.1 = some (ty0 a)) ∧ (∀ a, a < N → defaultValue (ty0 a) = vp_V fs a) ∧
  Cond.classLink own idx C ∈ pm_WS ∧ Cond.instantiable C N ∈ pm_WS ∧ Cond.initialized C ∈ pm_WS
theorem pm_ra {U : State} {cA cB : ClassId} {ty : FieldType} (h1 : va_RA U cA ty) (h2 : va_RA U cB ty) : cA = cB := by
  cases ty with
  | object C =>
    obtain ⟨_, _, _, _, _, a⟩ := h1
    obtain ⟨_, _, _, _, _, b⟩ := h2
    exact Option.some.inj (a.symm.trans b)
  | _ => exact Option.some.inj (h1.symm.trans h2)
section EH
variable {l : Launch} {X : pm_X} {μ : pm_M} {d mc ms k n pc : Nat} {Q : Option Value → pm_G → Prop} {ls : List (Nat × Value)} {st : List Value} {G : pm_G} {κ κ' : Nat}
theorem ev_get {idx ci j : Nat} {ty : FieldType} {fin : Bool} {a : Nat} {fs : List Value} {v : Value} (hd : decode μ.2.1 pc = .ok (.getfield idx, 3)) (hf : pm_fok μ.1.cls idx ci j ty fin) (hG : G a = some (κ, .inr (ci, fs))) (hv : fs[j]? = some v) (kk : ev_W l X μ d mc ms Q k n (pc + 3) ls (v :: st) G) : ev_W l X μ d mc ms Q k n pc ls (.ref a :: st) G := by
  intro p e s m args below meth c H locs la hF hS hI hl h1 h2
  obtain ⟨hx, hb, hr, hml, hlk, hnm, hown, hts, hC⟩ := id hF
  obtain ⟨C, T, N, ty0, ref, hc, hj, hws, ht0, hnm0, htj, hfin, hlink, hsm, hown2⟩ := hf
  have hsame : ∀ x, s.fieldFound? (T j).1 (T j).2.1 (T j).2.2.1 = some x → s.fieldFound? ref (T j).2.1 (T j).2.2.1 = some x := by
    rcases hsm with rfl | hw
    · exact fun _ h => h
    · exact fun x h => u_same (hts _ hw) x h
  rcases hlink with hw | ⟨host, hw⟩
  · exact va_get (D := pm_D X) (ws := [(a, .inr (ci, fs))]) hx hb hts hws hown hC.1 (hI.at hG) 0 rfl hc j hj (hts _ hw) hsame hv hd (kk p e s m args below meth c H locs la hF hS hI hl h1 h2)
  · exact va_getN (D := pm_D X) (ws := [(a, .inr (ci, fs))]) hx hb hts hws hown hC.1 (hI.at hG) 0 rfl hc j hj (va_Nw.use (pm_NW_tab _ hw) (hC.2.1 _ hw)) hsame hv hd (kk p e s m args below meth c H locs la hF hS hI hl h1 h2)
theorem ev_put {idx ci j : Nat} {ty : FieldType} {a : Nat} {fs : List Value} {v : Value} (hd : decode μ.2.1 pc = .ok (.putfield idx, 3)) (hf : pm_fok μ.1.cls idx ci j ty false) (hG : G a = some (κ, .inr (ci, fs))) (hn : narrow ty v = v) (hfit : fits ty v = true) (hlen : j < fs.length) (kk : ev_W l X μ d mc ms Q k n (pc + 3) ls st (pm_up G a (κ, .inr (ci, fs.set j v)))) : ev_W l X μ d mc ms Q k n pc ls (v :: .ref a :: st) G := by
  intro p e s m args below meth c H locs la hF hS hI hl h1 h2
  obtain ⟨hx, hb, hr, hml, hlk, hnm, hown, hts, hC⟩ := id hF
  obtain ⟨C, T, N, ty0, ref, hc, hj, hws, ht0, hnm0, htj, hfin, hlink, hsm, hown2⟩ := hf
  have hsame : ∀ x, s.fieldFound? (T j).1 (T j).2.1 (T j).2.2.1 = some x → s.fieldFound? ref (T j).2.1 (T j).2.2.1 = some x := by
    rcases hsm with rfl | hw
    · exact fun _ h => h
    · exact fun x h => u_same (hts _ hw) x h
  obtain ⟨ws, hP, hD, hGw⟩ := hI
  obtain ⟨q0, hq⟩ := List.getElem?_of_mem (hGw a _ hG)
  rcases hlink with hw | ⟨host, hw⟩
  · exact va_put (D := pm_D X) (ws := ws) hx hb hts hws ty0 ht0 hnm0 hown hC.1 hP hD hS q0 hq hc j hj (hts _ hw) hsame hfin htj hn hfit hlen hd (fun H1 locs1 hP1 hD1 hS1 => kk p e s m args below meth c H1 locs1 la hF hS1 ⟨_, hP1, hD1, pm_In.put (e := (κ, .inr (ci, fs))) (e' := (κ, .inr (ci, fs.set j v))) hD hGw hq⟩ hl h1 h2)
  · exact va_putN (D := pm_D X) (ws := ws) hx hb hts hws ty0 ht0 hnm0 hown hC.1 hP hD hS q0 hq hc j hj (va_Nw.use (pm_NW_tab _ hw) (hC.2.1 _ hw)) hsame hfin htj hn hfit hlen hd (fun H1 locs1 hP1 hD1 hS1 => kk p e s m args below meth c H1 locs1 la hF hS1 ⟨_, hP1, hD1, pm_In.put (e := (κ, .inr (ci, fs))) (e' := (κ, .inr (ci, fs.set j v))) hD hGw hq⟩ hl h1 h2)
theorem ev_putF {idx ci j : Nat} {ty : FieldType} {a : Nat} {fs : List Value} {v : Value} (hd : decode μ.2.1 pc = .ok (.putfield idx, 3)) (hf : pm_fok μ.1.cls idx ci j ty true) (hin : μ.1.name = "<init>") (hdc : ∀ C T N, classes[ci]? = some (C, T, N) → (T j).1 = μ.1.cls) (hG : G a = some (κ, .inr (ci, fs))) (hn : narrow ty v = v) (hfit : fits ty v = true) (hlen : j < fs.length) (kk : ev_W l X μ d mc ms Q k n (pc + 3) ls st (pm_up G a (κ, .inr (ci, fs.set j v)))) : ev_W l X μ d mc ms Q k n pc ls (v :: .ref a :: st) G := by
  intro p e s m args below meth c H locs la hF hS hI hl h1 h2
  obtain ⟨hx, hb, hr, hml, hlk, hnm, hown, hts, hC⟩ := id hF
  obtain ⟨C, T, N, ty0, ref, hc, hj, hws, ht0, hnm0, htj, hfin, hlink, hsm, hown2⟩ := hf
  have hsame : ∀ x, s.fieldFound? (T j).1 (T j).2.1 (T j).2.2.1 = some x → s.fieldFound? ref (T j).2.1 (T j).2.2.1 = some x := by
    rcases hsm with rfl | hw
    · exact fun _ h => h
    · exact fun x h => u_same (hts _ hw) x h
  obtain ⟨ws, hP, hD, hGw⟩ := hI
  obtain ⟨q0, hq⟩ := List.getElem?_of_mem (hGw a _ hG)
  have hdecl := hdc _ _ _ hc
  have hw := hown2 hdecl
  exact va_putF (D := pm_D X) (ws := ws) hx hb hts hws ty0 ht0 hnm0 hown hC.1 hP hD hS q0 hq hc j hj (hts _ hw) hsame hfin (hnm.1.trans hin) hdecl htj hn hfit hlen hd (fun H1 locs1 hP1 hD1 hS1 => kk p e s m args below meth c H1 locs1 la hF hS1 ⟨_, hP1, hD1, pm_In.put (e := (κ, .inr (ci, fs))) (e' := (κ, .inr (ci, fs.set j v))) hD hGw hq⟩ hl h1 h2)
theorem ev_new (κ : Nat) {idx ci N : Nat} {fs : List Value} (hd : decode μ.2.1 pc = .ok (.new idx, 3)) (hf : pm_nok μ.1.cls idx ci N fs) (hk : k + 1 ≤ mc) (hn : n + N ≤ ms) (kk : ∀ q, G q = none → ev_W l X μ d mc ms Q (k + 1) (n + N) (pc + 3) ls (.ref q :: st) (pm_up G q (κ, .inr (ci, fs)))) : ev_W l X μ d mc ms Q k n pc ls st G := by
  intro p e s m args below meth c H locs la hF hS hI hl h1 h2
  obtain ⟨hx, hb, hr, hml, hlk, hnm, hown, hts, hC⟩ := id hF
  obtain ⟨C, T, ty0, hc, hws, ht0, hdef, hw1, hw2, hw3⟩ := hf
  obtain ⟨ws, hP, hD, hGw⟩ := hI
  refine va_new (D := pm_D X) (ws := ws) (ci := ci) (fs := fs) hx hb hts hws ty0 ht0 hown (hts _ hw1) (hts _ hw2) (hts _ hw3) hC.1 hP hD hS (fun q hq => Nat.le_trans hC.2.2.2.2 hq) hc hdef hk hn hd (fun q H1 hP1 hD1 hS1 => ?_)
  obtain ⟨g1, g2⟩ := pm_In.new (X := X) (q := q) (e := (κ, .inr (ci, fs))) hD1 hGw
  exact kk q g1 p e s m args below meth c H1 locs la hF hS1 ⟨_, hP1, hD1, g2⟩ hl hk hn
theorem ev_newa (κ : Nat) {at_ : ArrayType} {t : Nat} {ty : FieldType} {z : Int32} {N : Nat} {a0 : (Nat → Int32) ⊕ (Nat → Int64) ⊕ (Nat → UInt32) ⊕ (Nat → UInt64) ⊕ (Nat → Option Nat)} (hd : decode μ.2.1 pc = .ok (.newarray at_, 2)) (hty : newarray.typeOf at_ = ty) (hkt : pm_kt[t]? = some ty) (hw : Cond.arrayClass ty ∈ pm_WS) (ha : ∀ cA : ClassId, vp_cell cA (N, a0) = arrV cA N (fun _ => defaultValue ty)) (hz : ¬ z < 0) (hN : z.toNatClampNeg = N) (hb8 : N * componentBytes ty ≤ 536870912) (hk : k + 1 ≤ mc) (hn : n + N ≤ ms) (kk : ∀ q, G q = none → ev_W l X μ d mc ms Q (k + 1) (n + N) (pc + 2) ls (.ref q :: st) (pm_up G q (κ, .inl (t, N, a0)))) : ev_W l X μ d mc ms Q k n pc ls (.int z :: st) G := by
  intro p e s m args below meth c H locs la hF hS hI hl h1 h2
  obtain ⟨hx, hb, hr, hml, hlk, hnm, hown, hts, hC⟩ := id hF
  obtain ⟨ws, hP, hD, hGw⟩ := hI
  refine va_newa (D := pm_D X) (ws := ws) (tys := pm_tys X) (a0 := (N, a0)) hx hb (by rw [hty]; exact hts _ hw) hty hC.1 hP hD hS (fun q hq => Nat.le_trans hC.2.2.2.2 hq) ha hz hN hb8 hk hn hd (fun q cA H1 hK1 hP1 hD1 hS1 => ?_)
  have e1 : cA = pm_tc X t := pm_ra (hK1.2 (pm_tys X).length (cA, ty) (by simp)).2 (hC.1.2 t _ (pm_ty hkt)).2
  subst e1
  obtain ⟨g1, g2⟩ := pm_In.new (X := X) (q := q) (e := (κ, .inl (t, N, a0))) hD1 hGw
  exact kk q g1 p e s m args below meth c H1 locs la hF hS1 ⟨_, hP1, hD1, g2⟩ hl hk hn
theorem ev_newq (κ : Nat) {idx t : Nat} {C : String} {z : Int32} {N : Nat} (hd : decode μ.2.1 pc = .ok (.anewarray idx, 3)) (hkt : pm_kt[t]? = some (.object C)) (hw : Cond.classLink μ.1.cls idx C ∈ pm_WS) (hao : C ∈ pm_AO) (hz : ¬ z < 0) (hN : z.toNatClampNeg = N) (hb8 : N * 4 ≤ 536870912) (hk : k + 1 ≤ mc) (hn : n + N ≤ ms) (kk : ∀ q, G q = none → ev_W l X μ d mc ms Q (k + 1) (n + N) (pc + 3) ls (.ref q :: st) (pm_up G q (κ, .inl (t, N, .inr (.inr (.inr (.inr (fun _ => none)))))))) : ev_W l X μ d mc ms Q k n pc ls (.int z :: st) G := by
  intro p e s m args below meth c H locs la hF hS hI hl h1 h2
  obtain ⟨hx, hb, hr, hml, hlk, hnm, hown, hts, hC⟩ := id hF
  obtain ⟨ws, hP, hD, hGw⟩ := hI
  refine va_newq (D := pm_D X) (ws := ws) (tys := pm_tys X) hx hb hown (hts _ hw) (hC.2.2.1 _ hao) hC.1 hP hD hS (fun q hq => Nat.le_trans hC.2.2.2.2 hq) hz hN hb8 hk hn hd (fun q cA H1 hK1 hP1 hD1 hS1 => ?_)
  have e1 : cA = pm_tc X t := pm_ra (hK1.2 (pm_tys X).length (cA, .object C) (by simp)).2 (hC.1.2 t _ (pm_ty hkt)).2
  subst e1
  obtain ⟨g1, g2⟩ := pm_In.new (X := X) (q := q) (e := (κ, .inl (t, N, .inr (.inr (.inr (.inr (fun _ => none))))))) hD1 hGw
  exact kk q g1 p e s m args below meth c H1 locs la hF hS1 ⟨_, hP1, hD1, g2⟩ hl hk hn
theorem ev_iald {t N a : Nat} {f : Nat → Int32} {i : Int32} (hd : decode μ.2.1 pc = .ok (.iaload, 1)) (hkt : pm_kt[t]? = some .int) (hG : G a = some (κ, .inl (t, N, .inl f))) (hin : vp_in i N) (kk : ev_W l X μ d mc ms Q k n (pc + 1) ls (.int (f i.toNatClampNeg) :: st) G) : ev_W l X μ d mc ms Q k n pc ls (.int i :: .ref a :: st) G := by
  intro p e s m args below meth c H locs la hF hS hI hl h1 h2
  obtain ⟨hx, hb, hr, hml, hlk, hnm, hown, hts, hC⟩ := id hF
  exact va_iald (D := pm_D X) (ws := [(a, .inl (pm_tc X t, N, .inl f))]) hx hb hC.1 (hI.at hG) 0 t rfl (pm_ty hkt) hin hd (kk p e s m args below meth c H locs la hF hS hI hl h1 h2)
theorem ev_bald {t N a : Nat} {f : Nat → Int32} {i : Int32} (hd : decode μ.2.1 pc = .ok (.baload, 1)) (hkt : pm_kt[t]? = some .byte) (hG : G a = some (κ, .inl (t, N, .inl f))) (hin : vp_in i N) (kk : ev_W l X μ d mc ms Q k n (pc + 1) ls (.int (f i.toNatClampNeg) :: st) G) : ev_W l X μ d mc ms Q k n pc ls (.int i :: .ref a :: st) G := by
  intro p e s m args below meth c H locs la hF hS hI hl h1 h2
  obtain ⟨hx, hb, hr, hml, hlk, hnm, hown, hts, hC⟩ := id hF
  exact va_bald (D := pm_D X) (ws := [(a, .inl (pm_tc X t, N, .inl f))]) hx hb hC.1 (hI.at hG) 0 t rfl (pm_ty hkt) hin hd (kk p e s m args below meth c H locs la hF hS hI hl h1 h2)
theorem ev_zald {t N a : Nat} {f : Nat → Int32} {i : Int32} (hd : decode μ.2.1 pc = .ok (.baload, 1)) (hkt : pm_kt[t]? = some .boolean) (hG : G a = some (κ, .inl (t, N, .inl f))) (hin : vp_in i N) (kk : ev_W l X μ d mc ms Q k n (pc + 1) ls (.int (f i.toNatClampNeg) :: st) G) : ev_W l X μ d mc ms Q k n pc ls (.int i :: .ref a :: st) G := by
  intro p e s m args below meth c H locs la hF hS hI hl h1 h2
  obtain ⟨hx, hb, hr, hml, hlk, hnm, hown, hts, hC⟩ := id hF
  exact va_zald (D := pm_D X) (ws := [(a, .inl (pm_tc X t, N, .inl f))]) hx hb hC.1 (hI.at hG) 0 t rfl (pm_ty hkt) hin hd (kk p e s m args below meth c H locs la hF hS hI hl h1 h2)
theorem ev_cald {t N a : Nat} {f : Nat → Int32} {i : Int32} (hd : decode μ.2.1 pc = .ok (.caload, 1)) (hkt : pm_kt[t]? = some .char) (hG : G a = some (κ, .inl (t, N, .inl f))) (hin : vp_in i N) (kk : ev_W l X μ d mc ms Q k n (pc + 1) ls (.int (f i.toNatClampNeg) :: st) G) : ev_W l X μ d mc ms Q k n pc ls (.int i :: .ref a :: st) G := by
  intro p e s m args below meth c H locs la hF hS hI hl h1 h2
  obtain ⟨hx, hb, hr, hml, hlk, hnm, hown, hts, hC⟩ := id hF
  exact va_cald (D := pm_D X) (ws := [(a, .inl (pm_tc X t, N, .inl f))]) hx hb hC.1 (hI.at hG) 0 t rfl (pm_ty hkt) hin hd (kk p e s m args below meth c H locs la hF hS hI hl h1 h2)
theorem ev_sald {t N a : Nat} {f : Nat → Int32} {i : Int32} (hd : decode μ.2.1 pc = .ok (.saload, 1)) (hkt : pm_kt[t]? = some .short) (hG : G a = some (κ, .inl (t, N, .inl f))) (hin : vp_in i N) (kk : ev_W l X μ d mc ms Q k n (pc + 1) ls (.int (f i.toNatClampNeg) :: st) G) : ev_W l X μ d mc ms Q k n pc ls (.int i :: .ref a :: st) G := by
  intro p e s m args below meth c H locs la hF hS hI hl h1 h2
  obtain ⟨hx, hb, hr, hml, hlk, hnm, hown, hts, hC⟩ := id hF
  exact va_sald (D := pm_D X) (ws := [(a, .inl (pm_tc X t, N, .inl f))]) hx hb hC.1 (hI.at hG) 0 t rfl (pm_ty hkt) hin hd (kk p e s m args below meth c H locs la hF hS hI hl h1 h2)
theorem ev_lald {t N a : Nat} {f : Nat → Int64} {i : Int32} (hd : decode μ.2.1 pc = .ok (.laload, 1)) (hkt : pm_kt[t]? = some .long) (hG : G a = some (κ, .inl (t, N, .inr (.inl f)))) (hin : vp_in i N) (kk : ev_W l X μ d mc ms Q k n (pc + 1) ls (.long (f i.toNatClampNeg) :: st) G) : ev_W l X μ d mc ms Q k n pc ls (.int i :: .ref a :: st) G := by
  intro p e s m args below meth c H locs la hF hS hI hl h1 h2
  obtain ⟨hx, hb, hr, hml, hlk, hnm, hown, hts, hC⟩ := id hF
  exact va_lald (D := pm_D X) (ws := [(a, .inl (pm_tc X t, N, .inr (.inl f)))]) hx hb hC.1 (hI.at hG) 0 t rfl (pm_ty hkt) hin hd (kk p e s m args below meth c H locs la hF hS hI hl h1 h2)
theorem ev_aald {t N a : Nat} {C : String} {f : Nat → Option Nat} {i : Int32} (hd : decode μ.2.1 pc = .ok (.aaload, 1)) (hkt : pm_kt[t]? = some (.object C)) (hG : G a = some (κ, .inl (t, N, .inr (.inr (.inr (.inr f)))))) (hin : vp_in i N) (kk : ev_W l X μ d mc ms Q k n (pc + 1) ls (va_rf (f i.toNatClampNeg) :: st) G) : ev_W l X μ d mc ms Q k n pc ls (.int i :: .ref a :: st) G := by
  intro p e s m args below meth c H locs la hF hS hI hl h1 h2
  obtain ⟨hx, hb, hr, hml, hlk, hnm, hown, hts, hC⟩ := id hF
  exact va_aldq (D := pm_D X) (ws := [(a, .inl (pm_tc X t, N, .inr (.inr (.inr (.inr f)))))]) hx hb hC.1 (hI.at hG) 0 t rfl (pm_ty hkt) hin hd (kk p e s m args below meth c H locs la hF hS hI hl h1 h2)
theorem ev_iast {t N a : Nat} {f : Nat → Int32} {i : Int32} {x : Int32} (hd : decode μ.2.1 pc = .ok (.iastore, 1)) (hkt : pm_kt[t]? = some .int) (hG : G a = some (κ, .inl (t, N, .inl f))) (hin : vp_in i N) (kk : ev_W l X μ d mc ms Q k n (pc + 1) ls st (pm_up G a (κ, .inl (t, N, .inl (upd f i.toNatClampNeg x))))) : ev_W l X μ d mc ms Q k n pc ls (.int x :: .int i :: .ref a :: st) G := by
  intro p e s m args below meth c H locs la hF hS hI hl h1 h2
  obtain ⟨hx, hb, hr, hml, hlk, hnm, hown, hts, hC⟩ := id hF
  obtain ⟨ws, hP, hD, hGw⟩ := hI
  obtain ⟨q0, hq⟩ := List.getElem?_of_mem (hGw a _ hG)
  exact va_iast (D := pm_D X) (ws := ws) hx hb hC.1 hP hD hS q0 t hq (pm_ty hkt) hin hd (fun H1 locs1 hP1 hD1 hS1 => kk p e s m args below meth c H1 locs1 la hF hS1 ⟨_, hP1, hD1, pm_In.put (e := (κ, .inl (t, N, .inl f))) (e' := (κ, .inl (t, N, .inl (upd f i.toNatClampNeg x)))) hD hGw hq⟩ hl h1 h2)
theorem ev_bast {t N a : Nat} {f : Nat → Int32} {i : Int32} {x : Int32} (hd : decode μ.2.1 pc = .ok (.bastore, 1)) (hkt : pm_kt[t]? = some .byte) (hG : G a = some (κ, .inl (t, N, .inl f))) (hin : vp_in i N) (kk : ev_W l X μ d mc ms Q k n (pc + 1) ls st (pm_up G a (κ, .inl (t, N, .inl (upd f i.toNatClampNeg (vp_nar .byte x)))))) : ev_W l X μ d mc ms Q k n pc ls (.int x :: .int i :: .ref a :: st) G := by
  intro p e s m args below meth c H locs la hF hS hI hl h1 h2
  obtain ⟨hx, hb, hr, hml, hlk, hnm, hown, hts, hC⟩ := id hF
  obtain ⟨ws, hP, hD, hGw⟩ := hI
  obtain ⟨q0, hq⟩ := List.getElem?_of_mem (hGw a _ hG)
  exact va_bast (D := pm_D X) (ws := ws) hx hb hC.1 hP hD hS q0 t hq (pm_ty hkt) hin hd (fun H1 locs1 hP1 hD1 hS1 => kk p e s m args below meth c H1 locs1 la hF hS1 ⟨_, hP1, hD1, pm_In.put (e := (κ, .inl (t, N, .inl f))) (e' := (κ, .inl (t, N, .inl (upd f i.toNatClampNeg (vp_nar .byte x))))) hD hGw hq⟩ hl h1 h2)
theorem ev_zast {t N a : Nat} {f : Nat → Int32} {i : Int32} {x : Int32} (hd : decode μ.2.1 pc = .ok (.bastore, 1)) (hkt : pm_kt[t]? = some .boolean) (hG : G a = some (κ, .inl (t, N, .inl f))) (hin : vp_in i N) (kk : ev_W l X μ d mc ms Q k n (pc + 1) ls st (pm_up G a (κ, .inl (t, N, .inl (upd f i.toNatClampNeg (vp_nar .boolean x)))))) : ev_W l X μ d mc ms Q k n pc ls (.int x :: .int i :: .ref a :: st) G := by
  intro p e s m args below meth c H locs la hF hS hI hl h1 h2
  obtain ⟨hx, hb, hr, hml, hlk, hnm, hown, hts, hC⟩ := id hF
  obtain ⟨ws, hP, hD, hGw⟩ := hI
  obtain ⟨q0, hq⟩ := List.getElem?_of_mem (hGw a _ hG)
  exact va_zast (D := pm_D X) (ws := ws) hx hb hC.1 hP hD hS q0 t hq (pm_ty hkt) hin hd (fun H1 locs1 hP1 hD1 hS1 => kk p e s m args below meth c H1 locs1 la hF hS1 ⟨_, hP1, hD1, pm_In.put (e := (κ, .inl (t, N, .inl f))) (e' := (κ, .inl (t, N, .inl (upd f i.toNatClampNeg (vp_nar .boolean x))))) hD hGw hq⟩ hl h1 h2)
theorem ev_cast {t N a : Nat} {f : Nat → Int32} {i : Int32} {x : Int32} (hd : decode μ.2.1 pc = .ok (.castore, 1)) (hkt : pm_kt[t]? = some .char) (hG : G a = some (κ, .inl (t, N, .inl f))) (hin : vp_in i N) (kk : ev_W l X μ d mc ms Q k n (pc + 1) ls st (pm_up G a (κ, .inl (t, N, .inl (upd f i.toNatClampNeg (vp_nar .char x)))))) : ev_W l X μ d mc ms Q k n pc ls (.int x :: .int i :: .ref a :: st) G := by
  intro p e s m args below meth c H locs la hF hS hI hl h1 h2
  obtain ⟨hx, hb, hr, hml, hlk, hnm, hown, hts, hC⟩ := id hF
  obtain ⟨ws, hP, hD, hGw⟩ := hI
  obtain ⟨q0, hq⟩ := List.getElem?_of_mem (hGw a _ hG)
  exact va_cast (D := pm_D X) (ws := ws) hx hb hC.1 hP hD hS q0 t hq (pm_ty hkt) hin hd (fun H1 locs1 hP1 hD1 hS1 => kk p e s m args below meth c H1 locs1 la hF hS1 ⟨_, hP1, hD1, pm_In.put (e := (κ, .inl (t, N, .inl f))) (e' := (κ, .inl (t, N, .inl (upd f i.toNatClampNeg (vp_nar .char x))))) hD hGw hq⟩ hl h1 h2)
theorem ev_last {t N a : Nat} {f : Nat → Int64} {i : Int32} {x : Int64} (hd : decode μ.2.1 pc = .ok (.lastore, 1)) (hkt : pm_kt[t]? = some .long) (hG : G a = some (κ, .inl (t, N, .inr (.inl f)))) (hin : vp_in i N) (kk : ev_W l X μ d mc ms Q k n (pc + 1) ls st (pm_up G a (κ, .inl (t, N, .inr (.inl (vp_updL f i.toNatClampNeg x)))))) : ev_W l X μ d mc ms Q k n pc ls (.long x :: .int i :: .ref a :: st) G := by
  intro p e s m args below meth c H locs la hF hS hI hl h1 h2
  obtain ⟨hx, hb, hr, hml, hlk, hnm, hown, hts, hC⟩ := id hF
  obtain ⟨ws, hP, hD, hGw⟩ := hI
  obtain ⟨q0, hq⟩ := List.getElem?_of_mem (hGw a _ hG)
  exact va_last (D := pm_D X) (ws := ws) hx hb hC.1 hP hD hS q0 t hq (pm_ty hkt) hin hd (fun H1 locs1 hP1 hD1 hS1 => kk p e s m args below meth c H1 locs1 la hF hS1 ⟨_, hP1, hD1, pm_In.put (e := (κ, .inl (t, N, .inr (.inl f)))) (e' := (κ, .inl (t, N, .inr (.inl (vp_updL f i.toNatClampNeg x))))) hD hGw hq⟩ hl h1 h2)
theorem ev_aast {t N a ci v : Nat} {E C : String} {T : u_T} {M : Nat} {vs : List Value} {f : Nat → Option Nat} {i : Int32} (hd : decode μ.2.1 pc = .ok (.aastore, 1)) (hkt : pm_kt[t]? = some (.object E)) (hG : G a = some (κ, .inl (t, N, .inr (.inr (.inr (.inr f)))))) (hv : G v = some (κ', .inr (ci, vs))) (hc : classes[ci]? = some (C, T, M)) (hE : C = E ∨ Cond.castable C E ∈ pm_NW) (hin : vp_in i N) (kk : ev_W l X μ d mc ms Q k n (pc + 1) ls st (pm_up G a (κ, .inl (t, N, .inr (.inr (.inr (.inr (va_up f i.toNatClampNeg (some v))))))))) : ev_W l X μ d mc ms Q k n pc ls (.ref v :: .int i :: .ref a :: st) G := by
  intro p e s m args below meth c H locs la hF hS hI hl h1 h2
  obtain ⟨hx, hb, hr, hml, hlk, hnm, hown, hts, hC⟩ := id hF
  obtain ⟨ws, hP, hD, hGw⟩ := hI
  obtain ⟨q0, hq⟩ := List.getElem?_of_mem (hGw a _ hG)
  obtain ⟨q1, hq1⟩ := List.getElem?_of_mem (hGw v _ hv)
  rcases hE with rfl | hw
  · exact va_astq (D := pm_D X) (ws := ws) (r := (C, T, M)) hx hb hC.1 hP hD hS q0 t q1 ci hq (pm_ty hkt) hq1 hc hin hd (fun H1 locs1 hP1 hD1 hS1 => kk p e s m args below meth c H1 locs1 la hF hS1 ⟨_, hP1, hD1, pm_In.put (e := (κ, .inl (t, N, .inr (.inr (.inr (.inr f)))))) (e' := (κ, .inl (t, N, .inr (.inr (.inr (.inr (va_up f i.toNatClampNeg (some v)))))))) hD hGw hq⟩ hl h1 h2)
  · exact va_astqO (D := pm_D X) (ws := ws) (r := (C, T, M)) hx hb hC.1 hP hD hS q0 t q1 ci hq (pm_ty hkt) (hC.2.1 _ hw) hq1 hc hin hd (fun H1 locs1 hP1 hD1 hS1 => kk p e s m args below meth c H1 locs1 la hF hS1 ⟨_, hP1, hD1, pm_In.put (e := (κ, .inl (t, N, .inr (.inr (.inr (.inr f)))))) (e' := (κ, .inl (t, N, .inr (.inr (.inr (.inr (va_up f i.toNatClampNeg (some v)))))))) hD hGw hq⟩ hl h1 h2)
theorem ev_alen {t a : Nat} {ty : FieldType} {x : vp_A} (hd : decode μ.2.1 pc = .ok (.arraylength, 1)) (hkt : pm_kt[t]? = some ty) (hG : G a = some (κ, .inl (t, x))) (kk : ev_W l X μ d mc ms Q k n (pc + 1) ls (.int (nI x.1) :: st) G) : ev_W l X μ d mc ms Q k n pc ls (.ref a :: st) G := by
  intro p e s m args below meth c H locs la hF hS hI hl h1 h2
  obtain ⟨hx, hb, hr, hml, hlk, hnm, hown, hts, hC⟩ := id hF
  exact va_alen (D := pm_D X) (ws := [(a, .inl (pm_tc X t, x))]) hx hb hC.1 (hI.at hG) 0 t rfl (pm_ty hkt) rfl hd (kk p e s m args below meth c H locs la hF hS hI hl h1 h2)
theorem pm_recv {κ : Nat} {X : pm_X} {G : pm_G} {H : Heap} {s : State} {a ci : Nat} {C : String} {T : u_T} {M : Nat} {fs : List Value} (hI : pm_In X G H) (hC : pm_C X s) (hG : G a = some (κ, .inr (ci, fs))) (hc : classes[ci]? = some (C, T, M)) : ∃ cell : Cell, H[a]? = some cell ∧ cell.vm.isStatics = false ∧ s.vm.findClass C = some cell.cls :=
  va_recv (q := (C, T, M)) (q0 := 0) hC.1 (hI.at hG) hc rfl
theorem ev_ccast {idx ci a : Nat} {C nm : String} {T : u_T} {M : Nat} {fs : List Value} (hd : decode μ.2.1 pc = .ok (.checkcast idx, 3)) (hG : G a = some (κ, .inr (ci, fs))) (hc : classes[ci]? = some (C, T, M)) (hw : Cond.classLink μ.1.cls idx nm ∈ pm_WS) (hE : C = nm ∨ Cond.castable C nm ∈ pm_NW) (kk : ev_W l X μ d mc ms Q k n (pc + 3) ls (.ref a :: st) G) : ev_W l X μ d mc ms Q k n pc ls (.ref a :: st) G := by
  intro p e s m args below meth c H locs la hF hS hI hl h1 h2
  obtain ⟨hx, hb, hr, hml, hlk, hnm, hown, hts, hC⟩ := id hF
  rcases hE with rfl | hw2
  · exact va_castS hx hb hown (hts _ hw) (hC.1.1 ci _ hc).2 (pm_recv hI hC hG hc) hd (kk p e s m args below meth c H locs la hF hS hI hl h1 h2)
  · exact va_castY hx hb hown (hts _ hw) (hC.2.1 _ hw2) (pm_recv hI hC hG hc) hd (kk p e s m args below meth c H locs la hF hS hI hl h1 h2)
theorem ev_ccastN {idx : Nat} (hd : decode μ.2.1 pc = .ok (.checkcast idx, 3)) (kk : ev_W l X μ d mc ms Q k n (pc + 3) ls (.null :: st) G) : ev_W l X μ d mc ms Q k n pc ls (.null :: st) G := by
  intro p e s m args below meth c H locs la hF hS hI hl h1 h2
  obtain ⟨hx, hb, hr, hml, hlk, hnm, hown, hts, hC⟩ := id hF
  exact lv_castN hx hb hd (kk p e s m args below meth c H locs la hF hS hI hl h1 h2)
theorem ev_objInit {idx a : Nat} (hd : decode μ.2.1 pc = .ok (.invokespecial idx, 3)) (hw : Cond.methodLink μ.1.cls idx objectInit ∈ pm_WS) (hi : Cond.instanceMethod objectInit ∈ pm_WS) (hc : Cond.code objectInit ⟨#[0xb1]⟩ 1 none ∈ pm_WS) (hst : (st.map fun v => v.category).sum ≤ 8) (hd1 : 1 ≤ d) (kk : ev_W l X μ d mc ms Q k n (pc + 3) ls st G) : ev_W l X μ d mc ms Q k n pc ls (.ref a :: st) G := by
  intro p e s m args below meth c H locs la hF hS hI hl h1 h2
  obtain ⟨hx, hb, hr, hml, hlk, hnm, hown, hts, hC⟩ := id hF
  have hroom := lv_room (m := m) (pc := pc) (ls := la) (rest := .ref a :: st) hst
  refine W.objInit hx hb hown (hts _ hw) (hts _ hi) (hts _ hc) rfl (by rw [hml]; exact hl.1) rfl hd hd1 ?_ (kk p e s m args below meth c H locs la hF hS hI hl h1 h2)
  show _ ≤ 64 * d
  omega
end EH
/-- behind a call -/
theorem ev_back {p : Program} {l : Launch} {e : Env} {R : Room} {s : State} {m : MethodId} {args : Array Value} {below : List Frame} {meth : Method} {c : Code} {H : Heap} {locs : List Loc} {cells slots mc ms pc : Nat} {Qw : State → Prop} {la : Array Slot} {rest st0 : List Value} {a : Array Value} {X : pm_X} {Q : Option Value → pm_G → Prop}
    (hr : va_Run p l e R s m args below meth c H locs cells slots mc ms (F0 m pc la st0) rest (pm_Q X Q a) (pm_A X)) (hS : va_S (pm_A X) s.heap H locs)
    (kk : ∀ (r : Option Value) (G : pm_G) (H1 : Heap) (locs1 : List Loc), Q r G → pm_In X G H1 → va_S (pm_A X) s.heap H1 locs1 → W p l e R s m args below meth c H1 locs1 (cells + mc) (slots + ms) Qw (F0 m (pc + 3) la (r.toList ++ rest))) : W p l e R s m args below meth c H locs cells slots Qw (F0 m pc la st0) := by
  intro T hT XT
  obtain ⟨v, st₀, t, T', L, h0, X', hL, e1, e2, ⟨r, G, hv, hq, hin, hz, hk⟩, st⟩ := hr T hT XT
  cases hv
  rw [h0] at hz hk
  obtain ⟨t2, a1, b1⟩ := kk v G T'.heap (locs ++ L) hq (by rw [e1]; exact hin)
    ⟨Nat.le_trans hS.1 (by rw [e1]; exact hz), fun q h1 h2 => by rw [e1, hk q (Nat.lt_of_lt_of_le h1 hS.1) h2]; exact hS.2.1 q h1 h2, fun q hq => by
      rcases List.mem_append.mp hq with h | h
      · exact hS.2.2 q h
      · exact hL q h⟩ T' rfl X'
  exact ⟨t2, st t2 a1, b1⟩
theorem pm_good {μ : pm_M} (h : Cond.code μ.1 μ.2.1 μ.2.2.1 μ.2.2.2 ∈ pm_WS) : GoodIn pm_WS (Cond.code μ.1 μ.2.1 μ.2.2.1 μ.2.2.2 :: pm_WS) := by
  intro w hw
  have h2 : w ∈ pm_WS := by
    rcases List.mem_cons.mp hw with rfl | h2
    · exact h
    · exact h2
  exact ⟨h2, good_of_word (List.mem_filter.mp h2).2⟩
/-- what every call wants of the callee -/
def pm_ck (μ : pm_M) (N : Nat) : Prop := Cond.code μ.1 μ.2.1 μ.2.2.1 μ.2.2.2 ∈ pm_WS ∧ Cond.initialized μ.1.cls ∈ pm_WS ∧ (μ.1.cls ≠ "java/lang/invoke/MethodHandle" ∧ μ.1.cls ≠ "java/lang/invoke/VarHandle" ∧ (parseMethodDescriptor μ.1.desc).map (fun d => d.parameters.length) = some N) ∧ μ.2.2.1 ≤ 45
theorem pm_blind {X : pm_X} {av : List Value} {G : pm_G} : FrameBlind (va_Pc av (fun U => pm_C X U ∧ pm_In X G U.heap)) := by
  intro a U g mk q
  obtain ⟨q0, q1, q2⟩ := q
  exact ⟨q0, q1.calling g mk a, q2⟩
theorem pm_room {d d' mc ms mc' ms' maxL : Nat} (h : d' + 1 ≤ d) (hm : maxL ≤ 45) : (pm_R d' mc' ms').frames + 1 ≤ (pm_R d mc ms).frames ∧ 8 + (maxL + 11) + (pm_R d' mc' ms').locals ≤ (pm_R d mc ms).locals := by
  refine ⟨h, ?_⟩
  show 8 + (maxL + 11) + 64 * d' ≤ 64 * d
  omega
section EC
variable {l : Launch} {X : pm_X} {μ ν : pm_M} {d d' mc ms k n pc N idx mc' ms' : Nat} {Q Q' : Option Value → pm_G → Prop} {ls : List (Nat × Value)} {st : List Value} {G : pm_G} {av : List Value} {κ : Nat}
theorem ev_callS (hd : decode μ.2.1 pc = .ok (.invokestatic idx, 3)) (hc : pm_ck ν N) (hw : Cond.methodLink μ.1.cls idx ν.1 ∈ pm_WS) (hs : Cond.static ν.1 ∈ pm_WS) (hM : cn_M l X ν d' mc' ms' av G Q') (hN : av.length = N) (hdd : d' + 1 ≤ d) (hst : (st.map fun v => v.category).sum ≤ 8) (hk : k + mc' ≤ mc) (hn : n + ms' ≤ ms) (kk : ∀ r G', Q' r G' → ev_W l X μ d mc ms Q (k + mc') (n + ms') (pc + 3) ls (r.toList ++ st) G') : ev_W l X μ d mc ms Q k n pc ls (av.reverse ++ st) G := by
  intro p e s m args below meth c H locs la hF hS hI hl h1 h2
  obtain ⟨hx, hb, hr, hml, hlk, hnm, hown, hts, hC⟩ := id hF
  obtain ⟨hc1, hc2, hc3, hc4⟩ := hc
  refine ev_back (X := X) (Q := Q') (rest := st) (va_runS (As := av) ⟨hx, hb, hml, hown, hts⟩ hM ⟨callB_of N hts (pm_good hc1) rfl rfl rfl (hts _ hc2) (hts _ hw) hc3 (pm_room hdd hc4), hts _ hs⟩ ⟨pm_blind, fun U hU hW => ⟨rfl, hC.to hW (by rw [hU]; exact hS), by rw [hU]; exact hI⟩⟩ rfl hN hl.1 rfl (lv_room hst) hd ⟨hk, hn⟩) hS (fun r G' H1 locs1 hq hI1 hS1 => kk r G' hq p e s m args below meth c H1 locs1 la hF hS1 hI1 hl hk hn)
theorem ev_callSN {host : String} (hd : decode μ.2.1 pc = .ok (.invokestatic idx, 3)) (hc : pm_ck ν N) (hw : Cond.methodLinkNest μ.1.cls idx ν.1 host ∈ pm_NW) (hs : Cond.static ν.1 ∈ pm_WS) (hM : cn_M l X ν d' mc' ms' av G Q') (hN : av.length = N) (hdd : d' + 1 ≤ d) (hst : (st.map fun v => v.category).sum ≤ 8) (hk : k + mc' ≤ mc) (hn : n + ms' ≤ ms) (kk : ∀ r G', Q' r G' → ev_W l X μ d mc ms Q (k + mc') (n + ms') (pc + 3) ls (r.toList ++ st) G') : ev_W l X μ d mc ms Q k n pc ls (av.reverse ++ st) G := by
  intro p e s m args below meth c H locs la hF hS hI hl h1 h2
  obtain ⟨hx, hb, hr, hml, hlk, hnm, hown, hts, hC⟩ := id hF
  obtain ⟨hc1, hc2, hc3, hc4⟩ := hc
  refine ev_back (X := X) (Q := Q') (rest := st) (va_runSN (As := av) ⟨hx, hb, hml, hown, hts⟩ hM ⟨va_cnB N hts (pm_good hc1) rfl rfl rfl (hC.2.1 _ hw) (hts _ hc2) hc3 (pm_room hdd hc4), hts _ hs, trivial⟩ ⟨pm_blind, fun U hU hW => ⟨rfl, hC.to hW (by rw [hU]; exact hS), by rw [hU]; exact hI⟩⟩ rfl hN hl.1 rfl (lv_room hst) hd ⟨hk, hn⟩) hS (fun r G' H1 locs1 hq hI1 hS1 => kk r G' hq p e s m args below meth c H1 locs1 la hF hS1 hI1 hl hk hn)
theorem ev_callV {C : String} {T : u_T} {M ci b : Nat} {fs : List Value} (hd : decode μ.2.1 pc = .ok (.invokevirtual idx, 3)) (hc : pm_ck ν N) (hw : Cond.methodLink μ.1.cls idx ν.1 ∈ pm_WS) (hi : Cond.instanceMethod ν.1 ∈ pm_WS) (hsel : Cond.selects C ν.1 ν.1 ∈ pm_WS) (hcl : classes[ci]? = some (C, T, M)) (hG : G b = some (κ, .inr (ci, fs))) (hM : cn_M l X ν d' mc' ms' (.ref b :: av) G Q') (hN : av.length = N) (hdd : d' + 1 ≤ d) (hst : (st.map fun v => v.category).sum ≤ 8) (hk : k + mc' ≤ mc) (hn : n + ms' ≤ ms) (kk : ∀ r G', Q' r G' → ev_W l X μ d mc ms Q (k + mc') (n + ms') (pc + 3) ls (r.toList ++ st) G') : ev_W l X μ d mc ms Q k n pc ls (av.reverse ++ .ref b :: st) G := by
  intro p e s m args below meth c H locs la hF hS hI hl h1 h2
  obtain ⟨hx, hb, hr, hml, hlk, hnm, hown, hts, hC⟩ := id hF
  obtain ⟨hc1, hc2, hc3, hc4⟩ := hc
  refine ev_back (X := X) (Q := Q') (rest := st) (va_runV (C := C) (b := b) (As := av) ⟨hx, hb, hml, hown, hts⟩ hM ⟨callB_of N hts (pm_good hc1) rfl rfl rfl (hts _ hc2) (hts _ hw) hc3 (pm_room hdd hc4), hts _ hi, hts _ hsel⟩ ⟨pm_blind, pm_recv hI hC hG hcl, fun U hU hW => ⟨rfl, hC.to hW (by rw [hU]; exact hS), by rw [hU]; exact hI⟩⟩ rfl hN hl.1 rfl (lv_room hst) hd ⟨hk, hn⟩) hS (fun r G' H1 locs1 hq hI1 hS1 => kk r G' hq p e s m args below meth c H1 locs1 la hF hS1 hI1 hl hk hn)
theorem ev_callVN {host : String} {C : String} {T : u_T} {M ci b : Nat} {fs : List Value} (hd : decode μ.2.1 pc = .ok (.invokevirtual idx, 3)) (hc : pm_ck ν N) (hw : Cond.methodLinkNest μ.1.cls idx ν.1 host ∈ pm_NW) (hi : Cond.instanceMethod ν.1 ∈ pm_WS) (hsel : Cond.selects C ν.1 ν.1 ∈ pm_WS) (hcl : classes[ci]? = some (C, T, M)) (hG : G b = some (κ, .inr (ci, fs))) (hM : cn_M l X ν d' mc' ms' (.ref b :: av) G Q') (hN : av.length = N) (hdd : d' + 1 ≤ d) (hst : (st.map fun v => v.category).sum ≤ 8) (hk : k + mc' ≤ mc) (hn : n + ms' ≤ ms) (kk : ∀ r G', Q' r G' → ev_W l X μ d mc ms Q (k + mc') (n + ms') (pc + 3) ls (r.toList ++ st) G') : ev_W l X μ d mc ms Q k n pc ls (av.reverse ++ .ref b :: st) G := by
  intro p e s m args below meth c H locs la hF hS hI hl h1 h2
  obtain ⟨hx, hb, hr, hml, hlk, hnm, hown, hts, hC⟩ := id hF
  obtain ⟨hc1, hc2, hc3, hc4⟩ := hc
  refine ev_back (X := X) (Q := Q') (rest := st) (va_runVN (C := C) (b := b) (As := av) ⟨hx, hb, hml, hown, hts⟩ hM ⟨va_cnB N hts (pm_good hc1) rfl rfl rfl (hC.2.1 _ hw) (hts _ hc2) hc3 (pm_room hdd hc4), hts _ hi, hts _ hsel⟩ ⟨pm_blind, pm_recv hI hC hG hcl, fun U hU hW => ⟨rfl, hC.to hW (by rw [hU]; exact hS), by rw [hU]; exact hI⟩⟩ rfl hN hl.1 rfl (lv_room hst) hd ⟨hk, hn⟩) hS (fun r G' H1 locs1 hq hI1 hS1 => kk r G' hq p e s m args below meth c H1 locs1 la hF hS1 hI1 hl hk hn)
theorem ev_callI {b : Nat} (hd : decode μ.2.1 pc = .ok (.invokespecial idx, 3)) (hc : pm_ck ν N) (hw : Cond.methodLink μ.1.cls idx ν.1 ∈ pm_WS) (hi : Cond.instanceMethod ν.1 ∈ pm_WS) (hnm1 : ν.1.name = "<init>") (hret : ν.2.2.2 = none) (hM : cn_M l X ν d' mc' ms' (.ref b :: av) G Q') (hN : av.length = N) (hdd : d' + 1 ≤ d) (hst : (st.map fun v => v.category).sum ≤ 8) (hk : k + mc' ≤ mc) (hn : n + ms' ≤ ms) (kk : ∀ r G', Q' r G' → ev_W l X μ d mc ms Q (k + mc') (n + ms') (pc + 3) ls (r.toList ++ st) G') : ev_W l X μ d mc ms Q k n pc ls (av.reverse ++ .ref b :: st) G := by
  intro p e s m args below meth c H locs la hF hS hI hl h1 h2
  obtain ⟨hx, hb, hr, hml, hlk, hnm, hown, hts, hC⟩ := id hF
  obtain ⟨hc1, hc2, hc3, hc4⟩ := hc
  have hM2 : Met l ν.1 (Cond.code ν.1 ν.2.1 ν.2.2.1 none :: pm_WS) (pm_R d' mc' ms') (va_Pc (.ref b :: av) (fun U => pm_C X U ∧ pm_In X G U.heap)) (pm_Q X Q') mc' ms' (pm_A X) := by rw [← hret]; exact hM
  have hg : GoodIn pm_WS (Cond.code ν.1 ν.2.1 ν.2.2.1 none :: pm_WS) := by rw [← hret]; exact pm_good hc1
  refine ev_back (X := X) (Q := Q') (rest := st) (va_runI (b := b) (As := av) ⟨hx, hb, hml, hown, hts⟩ hM2 ⟨callB_of N hts hg rfl rfl rfl (hts _ hc2) (hts _ hw) hc3 (pm_room hdd hc4), hnm1, hts _ hi⟩ ⟨pm_blind, fun U hU hW => ⟨rfl, hC.to hW (by rw [hU]; exact hS), by rw [hU]; exact hI⟩⟩ rfl hN hl.1 rfl (lv_room hst) hd ⟨hk, hn⟩) hS (fun r G' H1 locs1 hq hI1 hS1 => kk r G' hq p e s m args below meth c H1 locs1 la hF hS1 hI1 hl hk hn)
theorem ev_callIN {host : String} {b : Nat} (hd : decode μ.2.1 pc = .ok (.invokespecial idx, 3)) (hc : pm_ck ν N) (hw : Cond.methodLinkNest μ.1.cls idx ν.1 host ∈ pm_NW) (hi : Cond.instanceMethod ν.1 ∈ pm_WS) (hnm1 : ν.1.name = "<init>") (hret : ν.2.2.2 = none) (hM : cn_M l X ν d' mc' ms' (.ref b :: av) G Q') (hN : av.length = N) (hdd : d' + 1 ≤ d) (hst : (st.map fun v => v.category).sum ≤ 8) (hk : k + mc' ≤ mc) (hn : n + ms' ≤ ms) (kk : ∀ r G', Q' r G' → ev_W l X μ d mc ms Q (k + mc') (n + ms') (pc + 3) ls (r.toList ++ st) G') : ev_W l X μ d mc ms Q k n pc ls (av.reverse ++ .ref b :: st) G := by
  intro p e s m args below meth c H locs la hF hS hI hl h1 h2
  obtain ⟨hx, hb, hr, hml, hlk, hnm, hown, hts, hC⟩ := id hF
  obtain ⟨hc1, hc2, hc3, hc4⟩ := hc
  have hM2 : Met l ν.1 (Cond.code ν.1 ν.2.1 ν.2.2.1 none :: pm_WS) (pm_R d' mc' ms') (va_Pc (.ref b :: av) (fun U => pm_C X U ∧ pm_In X G U.heap)) (pm_Q X Q') mc' ms' (pm_A X) := by rw [← hret]; exact hM
  have hg : GoodIn pm_WS (Cond.code ν.1 ν.2.1 ν.2.2.1 none :: pm_WS) := by rw [← hret]; exact pm_good hc1
  refine ev_back (X := X) (Q := Q') (rest := st) (va_runIN (b := b) (As := av) ⟨hx, hb, hml, hown, hts⟩ hM2 ⟨va_cnB N hts hg rfl rfl rfl (hC.2.1 _ hw) (hts _ hc2) hc3 (pm_room hdd hc4), hnm1, hts _ hi⟩ ⟨pm_blind, fun U hU hW => ⟨rfl, hC.to hW (by rw [hU]; exact hS), by rw [hU]; exact hI⟩⟩ rfl hN hl.1 rfl (lv_room hst) hd ⟨hk, hn⟩) hS (fun r G' H1 locs1 hq hI1 hS1 => kk r G' hq p e s m args below meth c H1 locs1 la hF hS1 hI1 hl hk hn)
theorem ev_callS0 (hd : decode μ.2.1 pc = .ok (.invokestatic idx, 3)) (hc : pm_ck ν 0) (hw : Cond.methodLink μ.1.cls idx ν.1 ∈ pm_WS) (hs : Cond.static ν.1 ∈ pm_WS) (hM : cn_M l X ν d' mc' ms' [] G Q') (hdd : d' + 1 ≤ d) (hst : (st.map fun v => v.category).sum ≤ 8) (hk : k + mc' ≤ mc) (hn : n + ms' ≤ ms) (kk : ∀ r G', Q' r G' → ev_W l X μ d mc ms Q (k + mc') (n + ms') (pc + 3) ls (r.toList ++ st) G') : ev_W l X μ d mc ms Q k n pc ls (st) G := ev_callS (av := []) hd hc hw hs hM rfl hdd hst hk hn kk
theorem ev_callS1 {a1 : Value} (hd : decode μ.2.1 pc = .ok (.invokestatic idx, 3)) (hc : pm_ck ν 1) (hw : Cond.methodLink μ.1.cls idx ν.1 ∈ pm_WS) (hs : Cond.static ν.1 ∈ pm_WS) (hM : cn_M l X ν d' mc' ms' [a1] G Q') (hdd : d' + 1 ≤ d) (hst : (st.map fun v => v.category).sum ≤ 8) (hk : k + mc' ≤ mc) (hn : n + ms' ≤ ms) (kk : ∀ r G', Q' r G' → ev_W l X μ d mc ms Q (k + mc') (n + ms') (pc + 3) ls (r.toList ++ st) G') : ev_W l X μ d mc ms Q k n pc ls (a1 :: st) G := ev_callS (av := [a1]) hd hc hw hs hM rfl hdd hst hk hn kk
theorem ev_callS2 {a1 a2 : Value} (hd : decode μ.2.1 pc = .ok (.invokestatic idx, 3)) (hc : pm_ck ν 2) (hw : Cond.methodLink μ.1.cls idx ν.1 ∈ pm_WS) (hs : Cond.static ν.1 ∈ pm_WS) (hM : cn_M l X ν d' mc' ms' [a1, a2] G Q') (hdd : d' + 1 ≤ d) (hst : (st.map fun v => v.category).sum ≤ 8) (hk : k + mc' ≤ mc) (hn : n + ms' ≤ ms) (kk : ∀ r G', Q' r G' → ev_W l X μ d mc ms Q (k + mc') (n + ms') (pc + 3) ls (r.toList ++ st) G') : ev_W l X μ d mc ms Q k n pc ls (a2 :: a1 :: st) G := ev_callS (av := [a1, a2]) hd hc hw hs hM rfl hdd hst hk hn kk
theorem ev_callS3 {a1 a2 a3 : Value} (hd : decode μ.2.1 pc = .ok (.invokestatic idx, 3)) (hc : pm_ck ν 3) (hw : Cond.methodLink μ.1.cls idx ν.1 ∈ pm_WS) (hs : Cond.static ν.1 ∈ pm_WS) (hM : cn_M l X ν d' mc' ms' [a1, a2, a3] G Q') (hdd : d' + 1 ≤ d) (hst : (st.map fun v => v.category).sum ≤ 8) (hk : k + mc' ≤ mc) (hn : n + ms' ≤ ms) (kk : ∀ r G', Q' r G' → ev_W l X μ d mc ms Q (k + mc') (n + ms') (pc + 3) ls (r.toList ++ st) G') : ev_W l X μ d mc ms Q k n pc ls (a3 :: a2 :: a1 :: st) G := ev_callS (av := [a1, a2, a3]) hd hc hw hs hM rfl hdd hst hk hn kk
theorem ev_callS4 {a1 a2 a3 a4 : Value} (hd : decode μ.2.1 pc = .ok (.invokestatic idx, 3)) (hc : pm_ck ν 4) (hw : Cond.methodLink μ.1.cls idx ν.1 ∈ pm_WS) (hs : Cond.static ν.1 ∈ pm_WS) (hM : cn_M l X ν d' mc' ms' [a1, a2, a3, a4] G Q') (hdd : d' + 1 ≤ d) (hst : (st.map fun v => v.category).sum ≤ 8) (hk : k + mc' ≤ mc) (hn : n + ms' ≤ ms) (kk : ∀ r G', Q' r G' → ev_W l X μ d mc ms Q (k + mc') (n + ms') (pc + 3) ls (r.toList ++ st) G') : ev_W l X μ d mc ms Q k n pc ls (a4 :: a3 :: a2 :: a1 :: st) G := ev_callS (av := [a1, a2, a3, a4]) hd hc hw hs hM rfl hdd hst hk hn kk
theorem ev_callS5 {a1 a2 a3 a4 a5 : Value} (hd : decode μ.2.1 pc = .ok (.invokestatic idx, 3)) (hc : pm_ck ν 5) (hw : Cond.methodLink μ.1.cls idx ν.1 ∈ pm_WS) (hs : Cond.static ν.1 ∈ pm_WS) (hM : cn_M l X ν d' mc' ms' [a1, a2, a3, a4, a5] G Q') (hdd : d' + 1 ≤ d) (hst : (st.map fun v => v.category).sum ≤ 8) (hk : k + mc' ≤ mc) (hn : n + ms' ≤ ms) (kk : ∀ r G', Q' r G' → ev_W l X μ d mc ms Q (k + mc') (n + ms') (pc + 3) ls (r.toList ++ st) G') : ev_W l X μ d mc ms Q k n pc ls (a5 :: a4 :: a3 :: a2 :: a1 :: st) G := ev_callS (av := [a1, a2, a3, a4, a5]) hd hc hw hs hM rfl hdd hst hk hn kk
theorem ev_callS6 {a1 a2 a3 a4 a5 a6 : Value} (hd : decode μ.2.1 pc = .ok (.invokestatic idx, 3)) (hc : pm_ck ν 6) (hw : Cond.methodLink μ.1.cls idx ν.1 ∈ pm_WS) (hs : Cond.static ν.1 ∈ pm_WS) (hM : cn_M l X ν d' mc' ms' [a1, a2, a3, a4, a5, a6] G Q') (hdd : d' + 1 ≤ d) (hst : (st.map fun v => v.category).sum ≤ 8) (hk : k + mc' ≤ mc) (hn : n + ms' ≤ ms) (kk : ∀ r G', Q' r G' → ev_W l X μ d mc ms Q (k + mc') (n + ms') (pc + 3) ls (r.toList ++ st) G') : ev_W l X μ d mc ms Q k n pc ls (a6 :: a5 :: a4 :: a3 :: a2 :: a1 :: st) G := ev_callS (av := [a1, a2, a3, a4, a5, a6]) hd hc hw hs hM rfl hdd hst hk hn kk
theorem ev_callV0 {C : String} {T : u_T} {M ci b : Nat} {fs : List Value} (hd : decode μ.2.1 pc = .ok (.invokevirtual idx, 3)) (hc : pm_ck ν 0) (hw : Cond.methodLink μ.1.cls idx ν.1 ∈ pm_WS) (hi : Cond.instanceMethod ν.1 ∈ pm_WS) (hsel : Cond.selects C ν.1 ν.1 ∈ pm_WS) (hcl : classes[ci]? = some (C, T, M)) (hG : G b = some (κ, .inr (ci, fs))) (hM : cn_M l X ν d' mc' ms' (.ref b :: []) G Q') (hdd : d' + 1 ≤ d) (hst : (st.map fun v => v.category).sum ≤ 8) (hk : k + mc' ≤ mc) (hn : n + ms' ≤ ms) (kk : ∀ r G', Q' r G' → ev_W l X μ d mc ms Q (k + mc') (n + ms') (pc + 3) ls (r.toList ++ st) G') : ev_W l X μ d mc ms Q k n pc ls (.ref b :: st) G := ev_callV (av := []) hd hc hw hi hsel hcl hG hM rfl hdd hst hk hn kk
theorem ev_callV1 {a1 : Value} {C : String} {T : u_T} {M ci b : Nat} {fs : List Value} (hd : decode μ.2.1 pc = .ok (.invokevirtual idx, 3)) (hc : pm_ck ν 1) (hw : Cond.methodLink μ.1.cls idx ν.1 ∈ pm_WS) (hi : Cond.instanceMethod ν.1 ∈ pm_WS) (hsel : Cond.selects C ν.1 ν.1 ∈ pm_WS) (hcl : classes[ci]? = some (C, T, M)) (hG : G b = some (κ, .inr (ci, fs))) (hM : cn_M l X ν d' mc' ms' (.ref b :: [a1]) G Q') (hdd : d' + 1 ≤ d) (hst : (st.map fun v => v.category).sum ≤ 8) (hk : k + mc' ≤ mc) (hn : n + ms' ≤ ms) (kk : ∀ r G', Q' r G' → ev_W l X μ d mc ms Q (k + mc') (n + ms') (pc + 3) ls (r.toList ++ st) G') : ev_W l X μ d mc ms Q k n pc ls (a1 :: .ref b :: st) G := ev_callV (av := [a1]) hd hc hw hi hsel hcl hG hM rfl hdd hst hk hn kk
theorem ev_callV2 {a1 a2 : Value} {C : String} {T : u_T} {M ci b : Nat} {fs : List Value} (hd : decode μ.2.1 pc = .ok (.invokevirtual idx, 3)) (hc : pm_ck ν 2) (hw : Cond.methodLink μ.1.cls idx ν.1 ∈ pm_WS) (hi : Cond.instanceMethod ν.1 ∈ pm_WS) (hsel : Cond.selects C ν.1 ν.1 ∈ pm_WS) (hcl : classes[ci]? = some (C, T, M)) (hG : G b = some (κ, .inr (ci, fs))) (hM : cn_M l X ν d' mc' ms' (.ref b :: [a1, a2]) G Q') (hdd : d' + 1 ≤ d) (hst : (st.map fun v => v.category).sum ≤ 8) (hk : k + mc' ≤ mc) (hn : n + ms' ≤ ms) (kk : ∀ r G', Q' r G' → ev_W l X μ d mc ms Q (k + mc') (n + ms') (pc + 3) ls (r.toList ++ st) G') : ev_W l X μ d mc ms Q k n pc ls (a2 :: a1 :: .ref b :: st) G := ev_callV (av := [a1, a2]) hd hc hw hi hsel hcl hG hM rfl hdd hst hk hn kk
theorem ev_callV3 {a1 a2 a3 : Value} {C : String} {T : u_T} {M ci b : Nat} {fs : List Value} (hd : decode μ.2.1 pc = .ok (.invokevirtual idx, 3)) (hc : pm_ck ν 3) (hw : Cond.methodLink μ.1.cls idx ν.1 ∈ pm_WS) (hi : Cond.instanceMethod ν.1 ∈ pm_WS) (hsel : Cond.selects C ν.1 ν.1 ∈ pm_WS) (hcl : classes[ci]? = some (C, T, M)) (hG : G b = some (κ, .inr (ci, fs))) (hM : cn_M l X ν d' mc' ms' (.ref b :: [a1, a2, a3]) G Q') (hdd : d' + 1 ≤ d) (hst : (st.map fun v => v.category).sum ≤ 8) (hk : k + mc' ≤ mc) (hn : n + ms' ≤ ms) (kk : ∀ r G', Q' r G' → ev_W l X μ d mc ms Q (k + mc') (n + ms') (pc + 3) ls (r.toList ++ st) G') : ev_W l X μ d mc ms Q k n pc ls (a3 :: a2 :: a1 :: .ref b :: st) G := ev_callV (av := [a1, a2, a3]) hd hc hw hi hsel hcl hG hM rfl hdd hst hk hn kk
theorem ev_callV4 {a1 a2 a3 a4 : Value} {C : String} {T : u_T} {M ci b : Nat} {fs : List Value} (hd : decode μ.2.1 pc = .ok (.invokevirtual idx, 3)) (hc : pm_ck ν 4) (hw : Cond.methodLink μ.1.cls idx ν.1 ∈ pm_WS) (hi : Cond.instanceMethod ν.1 ∈ pm_WS) (hsel : Cond.selects C ν.1 ν.1 ∈ pm_WS) (hcl : classes[ci]? = some (C, T, M)) (hG : G b = some (κ, .inr (ci, fs))) (hM : cn_M l X ν d' mc' ms' (.ref b :: [a1, a2, a3, a4]) G Q') (hdd : d' + 1 ≤ d) (hst : (st.map fun v => v.category).sum ≤ 8) (hk : k + mc' ≤ mc) (hn : n + ms' ≤ ms) (kk : ∀ r G', Q' r G' → ev_W l X μ d mc ms Q (k + mc') (n + ms') (pc + 3) ls (r.toList ++ st) G') : ev_W l X μ d mc ms Q k n pc ls (a4 :: a3 :: a2 :: a1 :: .ref b :: st) G := ev_callV (av := [a1, a2, a3, a4]) hd hc hw hi hsel hcl hG hM rfl hdd hst hk hn kk
theorem ev_callV5 {a1 a2 a3 a4 a5 : Value} {C : String} {T : u_T} {M ci b : Nat} {fs : List Value} (hd : decode μ.2.1 pc = .ok (.invokevirtual idx, 3)) (hc : pm_ck ν 5) (hw : Cond.methodLink μ.1.cls idx ν.1 ∈ pm_WS) (hi : Cond.instanceMethod ν.1 ∈ pm_WS) (hsel : Cond.selects C ν.1 ν.1 ∈ pm_WS) (hcl : classes[ci]? = some (C, T, M)) (hG : G b = some (κ, .inr (ci, fs))) (hM : cn_M l X ν d' mc' ms' (.ref b :: [a1, a2, a3, a4, a5]) G Q') (hdd : d' + 1 ≤ d) (hst : (st.map fun v => v.category).sum ≤ 8) (hk : k + mc' ≤ mc) (hn : n + ms' ≤ ms) (kk : ∀ r G', Q' r G' → ev_W l X μ d mc ms Q (k + mc') (n + ms') (pc + 3) ls (r.toList ++ st) G') : ev_W l X μ d mc ms Q k n pc ls (a5 :: a4 :: a3 :: a2 :: a1 :: .ref b :: st) G := ev_callV (av := [a1, a2, a3, a4, a5]) hd hc hw hi hsel hcl hG hM rfl hdd hst hk hn kk
theorem ev_callV6 {a1 a2 a3 a4 a5 a6 : Value} {C : String} {T : u_T} {M ci b : Nat} {fs : List Value} (hd : decode μ.2.1 pc = .ok (.invokevirtual idx, 3)) (hc : pm_ck ν 6) (hw : Cond.methodLink μ.1.cls idx ν.1 ∈ pm_WS) (hi : Cond.instanceMethod ν.1 ∈ pm_WS) (hsel : Cond.selects C ν.1 ν.1 ∈ pm_WS) (hcl : classes[ci]? = some (C, T, M)) (hG : G b = some (κ, .inr (ci, fs))) (hM : cn_M l X ν d' mc' ms' (.ref b :: [a1, a2, a3, a4, a5, a6]) G Q') (hdd : d' + 1 ≤ d) (hst : (st.map fun v => v.category).sum ≤ 8) (hk : k + mc' ≤ mc) (hn : n + ms' ≤ ms) (kk : ∀ r G', Q' r G' → ev_W l X μ d mc ms Q (k + mc') (n + ms') (pc + 3) ls (r.toList ++ st) G') : ev_W l X μ d mc ms Q k n pc ls (a6 :: a5 :: a4 :: a3 :: a2 :: a1 :: .ref b :: st) G := ev_callV (av := [a1, a2, a3, a4, a5, a6]) hd hc hw hi hsel hcl hG hM rfl hdd hst hk hn kk
theorem ev_callI0 {b : Nat} (hd : decode μ.2.1 pc = .ok (.invokespecial idx, 3)) (hc : pm_ck ν 0) (hw : Cond.methodLink μ.1.cls idx ν.1 ∈ pm_WS) (hi : Cond.instanceMethod ν.1 ∈ pm_WS) (hnm1 : ν.1.name = "<init>") (hret : ν.2.2.2 = none) (hM : cn_M l X ν d' mc' ms' (.ref b :: []) G Q') (hdd : d' + 1 ≤ d) (hst : (st.map fun v => v.category).sum ≤ 8) (hk : k + mc' ≤ mc) (hn : n + ms' ≤ ms) (kk : ∀ r G', Q' r G' → ev_W l X μ d mc ms Q (k + mc') (n + ms') (pc + 3) ls (r.toList ++ st) G') : ev_W l X μ d mc ms Q k n pc ls (.ref b :: st) G := ev_callI (av := []) hd hc hw hi hnm1 hret hM rfl hdd hst hk hn kk
theorem ev_callI1 {a1 : Value} {b : Nat} (hd : decode μ.2.1 pc = .ok (.invokespecial idx, 3)) (hc : pm_ck ν 1) (hw : Cond.methodLink μ.1.cls idx ν.1 ∈ pm_WS) (hi : Cond.instanceMethod ν.1 ∈ pm_WS) (hnm1 : ν.1.name = "<init>") (hret : ν.2.2.2 = none) (hM : cn_M l X ν d' mc' ms' (.ref b :: [a1]) G Q') (hdd : d' + 1 ≤ d) (hst : (st.map fun v => v.category).sum ≤ 8) (hk : k + mc' ≤ mc) (hn : n + ms' ≤ ms) (kk : ∀ r G', Q' r G' → ev_W l X μ d mc ms Q (k + mc') (n + ms') (pc + 3) ls (r.toList ++ st) G') : ev_W l X μ d mc ms Q k n pc ls (a1 :: .ref b :: st) G := ev_callI (av := [a1]) hd hc hw hi hnm1 hret hM rfl hdd hst hk hn kk
theorem ev_callI2 {a1 a2 : Value} {b : Nat} (hd : decode μ.2.1 pc = .ok (.invokespecial idx, 3)) (hc : pm_ck ν 2) (hw : Cond.methodLink μ.1.cls idx ν.1 ∈ pm_WS) (hi : Cond.instanceMethod ν.1 ∈ pm_WS) (hnm1 : ν.1.name = "<init>") (hret : ν.2.2.2 = none) (hM : cn_M l X ν d' mc' ms' (.ref b :: [a1, a2]) G Q') (hdd : d' + 1 ≤ d) (hst : (st.map fun v => v.category).sum ≤ 8) (hk : k + mc' ≤ mc) (hn : n + ms' ≤ ms) (kk : ∀ r G', Q' r G' → ev_W l X μ d mc ms Q (k + mc') (n + ms') (pc + 3) ls (r.toList ++ st) G') : ev_W l X μ d mc ms Q k n pc ls (a2 :: a1 :: .ref b :: st) G := ev_callI (av := [a1, a2]) hd hc hw hi hnm1 hret hM rfl hdd hst hk hn kk
theorem ev_callI3 {a1 a2 a3 : Value} {b : Nat} (hd : decode μ.2.1 pc = .ok (.invokespecial idx, 3)) (hc : pm_ck ν 3) (hw : Cond.methodLink μ.1.cls idx ν.1 ∈ pm_WS) (hi : Cond.instanceMethod ν.1 ∈ pm_WS) (hnm1 : ν.1.name = "<init>") (hret : ν.2.2.2 = none) (hM : cn_M l X ν d' mc' ms' (.ref b :: [a1, a2, a3]) G Q') (hdd : d' + 1 ≤ d) (hst : (st.map fun v => v.category).sum ≤ 8) (hk : k + mc' ≤ mc) (hn : n + ms' ≤ ms) (kk : ∀ r G', Q' r G' → ev_W l X μ d mc ms Q (k + mc') (n + ms') (pc + 3) ls (r.toList ++ st) G') : ev_W l X μ d mc ms Q k n pc ls (a3 :: a2 :: a1 :: .ref b :: st) G := ev_callI (av := [a1, a2, a3]) hd hc hw hi hnm1 hret hM rfl hdd hst hk hn kk
theorem ev_callI4 {a1 a2 a3 a4 : Value} {b : Nat} (hd : decode μ.2.1 pc = .ok (.invokespecial idx, 3)) (hc : pm_ck ν 4) (hw : Cond.methodLink μ.1.cls idx ν.1 ∈ pm_WS) (hi : Cond.instanceMethod ν.1 ∈ pm_WS) (hnm1 : ν.1.name = "<init>") (hret : ν.2.2.2 = none) (hM : cn_M l X ν d' mc' ms' (.ref b :: [a1, a2, a3, a4]) G Q') (hdd : d' + 1 ≤ d) (hst : (st.map fun v => v.category).sum ≤ 8) (hk : k + mc' ≤ mc) (hn : n + ms' ≤ ms) (kk : ∀ r G', Q' r G' → ev_W l X μ d mc ms Q (k + mc') (n + ms') (pc + 3) ls (r.toList ++ st) G') : ev_W l X μ d mc ms Q k n pc ls (a4 :: a3 :: a2 :: a1 :: .ref b :: st) G := ev_callI (av := [a1, a2, a3, a4]) hd hc hw hi hnm1 hret hM rfl hdd hst hk hn kk
theorem ev_callI5 {a1 a2 a3 a4 a5 : Value} {b : Nat} (hd : decode μ.2.1 pc = .ok (.invokespecial idx, 3)) (hc : pm_ck ν 5) (hw : Cond.methodLink μ.1.cls idx ν.1 ∈ pm_WS) (hi : Cond.instanceMethod ν.1 ∈ pm_WS) (hnm1 : ν.1.name = "<init>") (hret : ν.2.2.2 = none) (hM : cn_M l X ν d' mc' ms' (.ref b :: [a1, a2, a3, a4, a5]) G Q') (hdd : d' + 1 ≤ d) (hst : (st.map fun v => v.category).sum ≤ 8) (hk : k + mc' ≤ mc) (hn : n + ms' ≤ ms) (kk : ∀ r G', Q' r G' → ev_W l X μ d mc ms Q (k + mc') (n + ms') (pc + 3) ls (r.toList ++ st) G') : ev_W l X μ d mc ms Q k n pc ls (a5 :: a4 :: a3 :: a2 :: a1 :: .ref b :: st) G := ev_callI (av := [a1, a2, a3, a4, a5]) hd hc hw hi hnm1 hret hM rfl hdd hst hk hn kk
theorem ev_callI6 {a1 a2 a3 a4 a5 a6 : Value} {b : Nat} (hd : decode μ.2.1 pc = .ok (.invokespecial idx, 3)) (hc : pm_ck ν 6) (hw : Cond.methodLink μ.1.cls idx ν.1 ∈ pm_WS) (hi : Cond.instanceMethod ν.1 ∈ pm_WS) (hnm1 : ν.1.name = "<init>") (hret : ν.2.2.2 = none) (hM : cn_M l X ν d' mc' ms' (.ref b :: [a1, a2, a3, a4, a5, a6]) G Q') (hdd : d' + 1 ≤ d) (hst : (st.map fun v => v.category).sum ≤ 8) (hk : k + mc' ≤ mc) (hn : n + ms' ≤ ms) (kk : ∀ r G', Q' r G' → ev_W l X μ d mc ms Q (k + mc') (n + ms') (pc + 3) ls (r.toList ++ st) G') : ev_W l X μ d mc ms Q k n pc ls (a6 :: a5 :: a4 :: a3 :: a2 :: a1 :: .ref b :: st) G := ev_callI (av := [a1, a2, a3, a4, a5, a6]) hd hc hw hi hnm1 hret hM rfl hdd hst hk hn kk
end EC
