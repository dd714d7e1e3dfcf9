/-! getClass of an array of objects; arraycopy of references -/
section E6
variable {l : Launch} {X : pm_X} {μ : pm_M} {d mc ms k n pc : Nat} {Q : Option Value → pm_G → Prop} {ls : List (Nat × Value)} {st : List Value} {G : pm_G} {κ κ' : Nat}
theorem ev_getC {idx a N : Nat} {f : Nat → Option Nat} (hd : decode μ.2.1 pc = .ok (.invokevirtual idx, 3)) (hw : Cond.methodLink μ.1.cls idx ⟨"java/lang/Object", "getClass", "()Ljava/lang/Class;"⟩ ∈ pm_WS) (hG : G a = some (κ, .inl (5, N, .inr (.inr (.inr (.inr f)))))) (hst : (st.map fun v => v.category).sum ≤ 8) (hd1 : 1 ≤ d) (kk : ev_W l X μ d mc ms Q k n (pc + 3) ls (.ref (X.2.2.2.1 1) :: st) G) : ev_W l X μ d mc ms Q k n pc ls (.ref a :: st) G := by
  intro p e s m args below meth c H locs la hF hS hI hl h1 h2
  obtain ⟨hx, hb, hr, hml, hlk, hnm, hown, hts, hC⟩ := id hF
  have hdec : va_Nw (.declares ⟨"java/lang/Object", "getClass", "()Ljava/lang/Class;"⟩) s := hC.2.1 _ (by decide +kernel)
  have hat := (hI.at hG) 0 _ rfl
  have hra := (hC.1.2 5 _ (pm_ty (X := X) (t := 5) (ty := .object "java/lang/Object") rfl)).2
  have hfc : s.vm.findClass "[Ljava/lang/Object;" = some (pm_tc X 5) := va_nmO hra (by decide +kernel)
  refine va_getC (C := "[Ljava/lang/Object;") hx hb (by rw [hml]; exact hl.1.symm) hown (hts _ hw) (va_Nw.use rfl hdec) (hts _ hw_1325) (hts _ hw_710) (hts _ hw_724) hC.2.2.2.1.2.2.2.2.1 ⟨_, hat, rfl, hfc⟩ hd1 ?_ hd (kk p e s m args below meth c H locs la hF hS hI hl h1 h2)
  show _ ≤ 64 * d
  omega
theorem ev_copyq {idx a0 a1 n0 n1 ci : Nat} {C : String} {T : u_T} {M : Nat} {f g : Nat → Option Nat} {sp dp z : Int32} (hd : decode μ.2.1 pc = .ok (.invokestatic idx, 3)) (hw : Cond.methodLink μ.1.cls idx arraycopyName ∈ pm_WS) (hG0 : G a0 = some (κ', .inl (5, n0, .inr (.inr (.inr (.inr f)))))) (hG1 : G a1 = some (κ, .inl (5, n1, .inr (.inr (.inr (.inr g)))))) (hs0 : ¬ sp < 0) (hs1 : ¬ dp < 0) (hs2 : ¬ z < 0) (hs3 : sp.toNatClampNeg + z.toNatClampNeg ≤ n0) (hs4 : dp.toNatClampNeg + z.toNatClampNeg ≤ n1)
    (hc : classes[ci]? = some (C, T, M)) (hca : Cond.castable C "java/lang/Object" ∈ pm_NW) (hel : ∀ i, i < z.toNatClampNeg → ∀ y, f (sp.toNatClampNeg + i) = some y → ∃ κy fs, G y = some (κy, .inr (ci, fs))) (hst : (st.map fun v => v.category).sum ≤ 8) (hd1 : 1 ≤ d) (kk : ev_W l X μ d mc ms Q k n (pc + 3) ls st (pm_up G a1 (κ, .inl (5, n1, .inr (.inr (.inr (.inr (va_cpy f g sp.toNatClampNeg dp.toNatClampNeg z.toNatClampNeg)))))))) : ev_W l X μ d mc ms Q k n pc ls (.int z :: .int dp :: .ref a1 :: .int sp :: .ref a0 :: st) G := by
  intro p e s m args below meth c H locs la hF hS hI hl h1 h2
  obtain ⟨hx, hb, hr, hml, hlk, hnm, hown, hts, hC⟩ := id hF
  have hI0 := hI
  obtain ⟨ws, hP, hD, hGw⟩ := hI
  obtain ⟨q0, hq0⟩ := List.getElem?_of_mem (hGw a0 _ hG0)
  obtain ⟨q1, hq1⟩ := List.getElem?_of_mem (hGw a1 _ hG1)
  refine va_copyq (D := pm_D X) (ws := ws) (tys := pm_tys X) (C := C) (E0 := "java/lang/Object") (E1 := "java/lang/Object") hx hb (by rw [hml]; exact hl.1.symm) hown (hts _ hw) (hts _ hw_185) (hts _ hw_184) (hts _ hw_19) hC.1 hP hD hS q0 q1 5 5 hq0 hq1 (pm_ty (X := X) (t := 5) rfl) (pm_ty (X := X) (t := 5) rfl) hs0 hs1 hs2 hs3 hs4 (fun i hi y hy => ?_) (fun comp c0 k1 k2 => ?_) hd1 ?_ hd (fun H1 locs1 hP1 hD1 hS1 => kk p e s m args below meth c H1 locs1 la hF hS1 ⟨_, hP1, hD1, pm_In.put (e := (κ, .inl (5, n1, .inr (.inr (.inr (.inr g)))))) (e' := (κ, .inl (5, n1, .inr (.inr (.inr (.inr (va_cpy f g sp.toNatClampNeg dp.toNatClampNeg z.toNatClampNeg))))))) hD hGw hq1⟩ hl h1 h2)
  · obtain ⟨κy, fs, hy2⟩ := hel i hi y hy
    exact pm_recv hI0 hC hy2 hc
  · obtain ⟨c1, t1, f1, f2, f3⟩ := Cond.castable_spec (va_Nw.use (A := args) rfl (hC.2.1 _ hca))
    cases k2.symm.trans f1
    cases k1.symm.trans f2
    exact f3
  · show _ ≤ 64 * d
    have hw5 : nativeFrameWords "java/lang/System" "arraycopy" 5 ≤ 40 := by decide +kernel
    omega
end E6
