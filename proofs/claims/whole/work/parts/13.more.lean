theorem cn_inF {l : Launch} {X : pm_X} {μ : pm_M} {d mc ms : Nat} {av : List Value} {G : pm_G} {Q : Option Value → pm_G → Prop} (hp : plainFor μ.1 = true) (hlen : (lg_sl av).length ≤ μ.2.2.1) (kk : ev_W l X μ d mc ms Q 0 0 0 (lv_args 0 av) [] G) (hne : pm_thr μ = false := by rfl) : cn_M l X μ d mc ms av G Q := by
  refine va_MetF (cc := μ.2.1) (maxL := μ.2.2.1) (ret := μ.2.2.2) hp rfl ?_
  intro p e s m args below meth c s₁ B hml hv
  obtain ⟨rfl, hC, hI⟩ := hv
  have hts := atoms_spec (ws := Cond.code μ.1 μ.2.1 μ.2.2.1 μ.2.2.2 :: pm_WS) B.pre
  have hown : s.vm.findClass μ.1.cls = some m.cls := findClass_of_methodNamed B.named
  have hnm := And.intro (name_of_methodNamed B.named B.method).1 B.named
  rw [lg_entry_eq]
  intro T hT hX
  obtain ⟨t, a1, o, b1, b2, ⟨r, G1, c1, c2, c3⟩, L, f, hL⟩ := kk p e s m _ below meth c s.heap [] _ ⟨B.exec, B.bytes, B.returns, hml, B.notSynchronized, hnm, hown, fun w hw => hts w (List.mem_cons_of_mem _ hw), hC⟩ va_S.rf hI (lv_entry av hlen) (Nat.zero_le _) (Nat.zero_le _) T hT hX
  have c4 := (c1.resolve_right (fun y => by rw [hne] at y; cases y.1)).1
  exact ⟨t, a1, o, b1, b2, ⟨r, G1, c4, c2, c3⟩, L, ⟨⟨r, c4⟩, f⟩, hL⟩
/-- a contract with a weaker end, or more room -/
theorem cn_post {l : Launch} {X : pm_X} {μ : pm_M} {d mc ms : Nat} {av : List Value} {G : pm_G} {Q Q' : Option Value → pm_G → Prop} (hM : cn_M l X μ d mc ms av G Q) (h : ∀ r G', Q r G' → Q' r G') : cn_M l X μ d mc ms av G Q' := by
  intro p e ha hc hk s m args below hf hp hP hK
  obtain ⟨k, o, h1, h2, h3, ⟨r, G', q1, q2, q3⟩, q4⟩ := hM p e ha hc hk s m args below hf hp hP hK
  exact ⟨k, o, h1, h2, h3, ⟨r, G', q1, h r G' q2, q3⟩, q4⟩
section EM
variable {l : Launch} {X : pm_X} {μ : pm_M} {d mc ms k n pc : Nat} {Q : Option Value → pm_G → Prop} {ls : List (Nat × Value)} {st : List Value} {G : pm_G} {κ κ' : Nat}
theorem ev_aload_nN {z : Fin 4} {i : Nat} (hd : decode μ.2.1 pc = .ok (.aload_n z, 1)) (hi : (z : Nat) = i) (hx : pm_lg ls i = some .null) (kk : ev_W l X μ d mc ms Q k n (pc + 1) ls (.null :: st) G) : ev_W l X μ d mc ms Q k n pc ls st G := by
  intro p e s m args below meth c H locs la hF hS hI hl h1 h2
  exact lv_aload_nN hF.1 hF.2.1 hd hi (hl.2.2 _ (pm_lg_mem hx)) (kk p e s m args below meth c H locs la hF hS hI hl h1 h2)
theorem ev_aloadN {i : Nat} (hd : decode μ.2.1 pc = .ok (.aload i, 2)) (hx : pm_lg ls i = some .null) (kk : ev_W l X μ d mc ms Q k n (pc + 2) ls (.null :: st) G) : ev_W l X μ d mc ms Q k n pc ls st G := by
  intro p e s m args below meth c H locs la hF hS hI hl h1 h2
  exact lv_aloadN hF.1 hF.2.1 hd (hl.2.2 _ (pm_lg_mem hx)) (kk p e s m args below meth c H locs la hF hS hI hl h1 h2)
theorem ev_astore_nN {z : Fin 4} {i : Nat} (hd : decode μ.2.1 pc = .ok (.astore_n z, 1)) (hi : (z : Nat) = i) (hn : i < μ.2.2.1) (kk : ev_W l X μ d mc ms Q k n (pc + 1) (pm_ls1 ls i .null) st G) : ev_W l X μ d mc ms Q k n pc ls (.null :: st) G := by
  intro p e s m args below meth c H locs la hF hS hI hl h1 h2
  exact lv_astore_nN hF.1 hF.2.1 hd hi hl hn rfl (fun la hl => kk p e s m args below meth c H locs la hF hS hI (pm_has hl) h1 h2)
theorem ev_astoreN {i : Nat} (hd : decode μ.2.1 pc = .ok (.astore i, 2)) (hn : i < μ.2.2.1) (kk : ev_W l X μ d mc ms Q k n (pc + 2) (pm_ls1 ls i .null) st G) : ev_W l X μ d mc ms Q k n pc ls (.null :: st) G := by
  intro p e s m args below meth c H locs la hF hS hI hl h1 h2
  exact lv_astoreN hF.1 hF.2.1 hd hl hn rfl (fun la hl => kk p e s m args below meth c H locs la hF hS hI (pm_has hl) h1 h2)
theorem ev_ifnullN {off : Int} (tgt : Nat) (hd : decode μ.2.1 pc = .ok (.ifnull off, 3)) (ht : (pc : Int) + off = (tgt : Int)) (kk : ev_W l X μ d mc ms Q k n tgt ls st G) : ev_W l X μ d mc ms Q k n pc ls (.null :: st) G := by
  intro p e s m args below meth c H locs la hF hS hI hl h1 h2
  exact lv_ifnullN hF.1 hF.2.1 hd ht (kk p e s m args below meth c H locs la hF hS hI hl h1 h2)
theorem ev_ifnullR {off : Int} {a : Nat} (hd : decode μ.2.1 pc = .ok (.ifnull off, 3)) (kk : ev_W l X μ d mc ms Q k n (pc + 3) ls st G) : ev_W l X μ d mc ms Q k n pc ls (.ref a :: st) G := by
  intro p e s m args below meth c H locs la hF hS hI hl h1 h2
  exact lv_ifnull hF.1 hF.2.1 hd (kk p e s m args below meth c H locs la hF hS hI hl h1 h2)
theorem ev_ifnonnullN {off : Int} (hd : decode μ.2.1 pc = .ok (.ifnonnull off, 3)) (kk : ev_W l X μ d mc ms Q k n (pc + 3) ls st G) : ev_W l X μ d mc ms Q k n pc ls (.null :: st) G := by
  intro p e s m args below meth c H locs la hF hS hI hl h1 h2
  exact lv_ifnonnullN hF.1 hF.2.1 hd (kk p e s m args below meth c H locs la hF hS hI hl h1 h2)
theorem ev_ifnonnullR {off : Int} {a : Nat} (tgt : Nat) (hd : decode μ.2.1 pc = .ok (.ifnonnull off, 3)) (ht : (pc : Int) + off = (tgt : Int)) (kk : ev_W l X μ d mc ms Q k n tgt ls st G) : ev_W l X μ d mc ms Q k n pc ls (.ref a :: st) G := by
  intro p e s m args below meth c H locs la hF hS hI hl h1 h2
  exact lv_ifnonnull hF.1 hF.2.1 hd ht (kk p e s m args below meth c H locs la hF hS hI hl h1 h2)
theorem ev_aastN {t N a : Nat} {E : String} {f : Nat → Option Nat} {i : Int32} (hd : decode μ.2.1 pc = .ok (.aastore, 1)) (hkt : pm_kt[t]? = some (.object E)) (hG : G a = some (κ, .inl (t, N, .inr (.inr (.inr (.inr f)))))) (hin : vp_in i N) (kk : ev_W l X μ d mc ms Q k n (pc + 1) ls st (pm_up G a (κ, .inl (t, N, .inr (.inr (.inr (.inr (va_up f i.toNatClampNeg none)))))))) : ev_W l X μ d mc ms Q k n pc ls (.null :: .int i :: .ref a :: st) G := by
  intro p e s m args below meth c H locs la hF hS hI hl h1 h2
  obtain ⟨hx, hb, hr, hml, hlk, hnm, hown, hts, hC⟩ := id hF
  obtain ⟨ws, hP, hD, hGw⟩ := hI
  obtain ⟨q0, hq⟩ := List.getElem?_of_mem (hGw a _ hG)
  exact va_astqN (D := pm_D X) (ws := ws) hx hb hC.1 hP hD hS q0 t hq (pm_ty hkt) hin hd (fun H1 locs1 hP1 hD1 hS1 => kk p e s m args below meth c H1 locs1 la hF hS1 ⟨_, hP1, hD1, pm_In.put (e := (κ, .inl (t, N, .inr (.inr (.inr (.inr f)))))) (e' := (κ, .inl (t, N, .inr (.inr (.inr (.inr (va_up f i.toNatClampNeg none))))))) hD hGw hq⟩ hl h1 h2)
theorem ev_getsE (hμ : μ.1.cls = "java/util/ArrayList") (hd : decode μ.2.1 pc = .ok (.getstatic 39, 3)) (kk : ev_W l X μ d mc ms Q k n (pc + 3) ls (.ref (X.2.2.2.1 0) :: st) G) : ev_W l X μ d mc ms Q k n pc ls st G := by
  intro p e s m args below meth c H locs la hF hS hI hl h1 h2
  obtain ⟨hx, hb, hr, hml, hlk, hnm, hown, hts, hC⟩ := id hF
  exact va_gets (A := pm_A X) hx hb hC.2.2.2.1.2.2.1 hS (by rw [← hμ]; exact hown) (hts _ hw_54) (fun _ h => h) hd (kk p e s m args below meth c H locs la hF hS hI hl h1 h2)
theorem ev_getsC (hμ : μ.1.cls = "java/lang/String") (hd : decode μ.2.1 pc = .ok (.getstatic 38, 3)) (kk : ev_W l X μ d mc ms Q k n (pc + 3) ls (.int 1 :: st) G) : ev_W l X μ d mc ms Q k n pc ls st G := by
  intro p e s m args below meth c H locs la hF hS hI hl h1 h2
  obtain ⟨hx, hb, hr, hml, hlk, hnm, hown, hts, hC⟩ := id hF
  exact va_gets (A := pm_A X) hx hb hC.2.2.2.1.2.2.2.2.2.1 hS (by rw [← hμ]; exact hown) (hts _ hw_570) (fun _ h => h) hd (kk p e s m args below meth c H locs la hF hS hI hl h1 h2)
theorem ev_getsS (hμ : μ.1.cls = "java/lang/String") (hd : decode μ.2.1 pc = .ok (.getstatic 1053, 3)) (kk : ev_W l X μ d mc ms Q k n (pc + 3) ls (va_rf X.2.2.2.2 :: st) G) : ev_W l X μ d mc ms Q k n pc ls st G := by
  intro p e s m args below meth c H locs la hF hS hI hl h1 h2
  obtain ⟨hx, hb, hr, hml, hlk, hnm, hown, hts, hC⟩ := id hF
  exact va_gets (A := pm_A X) hx hb hC.2.2.2.1.2.2.2.2.2.2.1 hS (by rw [← hμ]; exact hown) (hts _ hw_586) (fun _ h => h) hd (kk p e s m args below meth c H locs la hF hS hI hl h1 h2)
/-- a text's place is its address's number -/
def pm_sa (X : pm_X) (i : Nat) : Nat := X.2.2.2.1 (2 * i + 2)
theorem ev_ldcS {i idx : Nat} {tx : String} (hd : decode μ.2.1 pc = .ok (.ldc idx, 2)) (hi : i < 18) (hk : pm_sk.getD i ("", 0, "") = (μ.1.cls, idx, tx)) (kk : ev_W l X μ d mc ms Q k n (pc + 2) ls (.ref (pm_sa X i) :: st) G) : ev_W l X μ d mc ms Q k n pc ls st G := by
  intro p e s m args below meth c H locs la hF hS hI hl h1 h2
  obtain ⟨hx, hb, hr, hml, hlk, hnm, hown, hts, hC⟩ := id hF
  have h := hC.2.2.2.1.2.1 i hi
  rw [hk] at h
  exact va_ldcS hx hb hown h hd (kk p e s m args below meth c H locs la hF hS hI hl h1 h2)
theorem ev_ldcwS {i idx : Nat} {tx : String} (hd : decode μ.2.1 pc = .ok (.ldc idx, 2)) (hi : i < 18) (hk : pm_sk.getD i ("", 0, "") = (μ.1.cls, idx, tx)) (kk : ev_W l X μ d mc ms Q k n (pc + 2) ls (.ref (pm_sa X i) :: st) G) : ev_W l X μ d mc ms Q k n pc ls st G := ev_ldcS hd hi hk kk
theorem ev_getV {i : Nat} (hμ : μ.1.cls = "java/lang/String") (hd : decode μ.2.1 pc = .ok (.getfield 9, 3)) (hi : i < 18) (kk : ev_W l X μ d mc ms Q k n (pc + 3) ls (.ref (X.2.2.2.1 (2 * i + 3)) :: st) G) : ev_W l X μ d mc ms Q k n pc ls (.ref (pm_sa X i) :: st) G := by
  intro p e s m args below meth c H locs la hF hS hI hl h1 h2
  obtain ⟨hx, hb, hr, hml, hlk, hnm, hown, hts, hC⟩ := id hF
  exact vk_getf (A := pm_A X) hx hb (hC.2.2.2.1.1.1 i hi).2.2.1 hS (by rw [← hμ]; exact hown) (hts _ hw_1338) (fun _ h => h) hd (kk p e s m args below meth c H locs la hF hS hI hl h1 h2)
theorem ev_getCo {i : Nat} (hμ : μ.1.cls = "java/lang/String") (hd : decode μ.2.1 pc = .ok (.getfield 15, 3)) (hi : i < 18) (kk : ev_W l X μ d mc ms Q k n (pc + 3) ls (.int 0 :: st) G) : ev_W l X μ d mc ms Q k n pc ls (.ref (pm_sa X i) :: st) G := by
  intro p e s m args below meth c H locs la hF hS hI hl h1 h2
  obtain ⟨hx, hb, hr, hml, hlk, hnm, hown, hts, hC⟩ := id hF
  exact vk_getf (A := pm_A X) hx hb (hC.2.2.2.1.1.1 i hi).2.1 hS (by rw [← hμ]; exact hown) (hts _ hw_1339) (fun _ h => h) hd (kk p e s m args below meth c H locs la hF hS hI hl h1 h2)
theorem ev_tlen {i : Nat} (hd : decode μ.2.1 pc = .ok (.arraylength, 1)) (hi : i < 18) (kk : ev_W l X μ d mc ms Q k n (pc + 1) ls (.int (nI (pm_sl.getD i 0)) :: st) G) : ev_W l X μ d mc ms Q k n pc ls (.ref (X.2.2.2.1 (2 * i + 3)) :: st) G := by
  intro p e s m args below meth c H locs la hF hS hI hl h1 h2
  obtain ⟨hx, hb, hr, hml, hlk, hnm, hown, hts, hC⟩ := id hF
  exact va_tlen (A := pm_A X) hx hb (hC.2.2.2.1.1.1 i hi).2.2.2 hS rfl hd (kk p e s m args below meth c H locs la hF hS hI hl h1 h2)
theorem ev_tb {i : Nat} {j : Int32} (hd : decode μ.2.1 pc = .ok (.baload, 1)) (hi : i < 18) (hin : vp_in j (pm_sl.getD i 0)) (kk : ev_W l X μ d mc ms Q k n (pc + 1) ls (.int ((pm_sb.getD i []).getD j.toNatClampNeg 0) :: st) G) : ev_W l X μ d mc ms Q k n pc ls (.int j :: .ref (X.2.2.2.1 (2 * i + 3)) :: st) G := by
  intro p e s m args below meth c H locs la hF hS hI hl h1 h2
  obtain ⟨hx, hb, hr, hml, hlk, hnm, hown, hts, hC⟩ := id hF
  exact va_tb (A := pm_A X) hx hb (hC.2.2.2.1.1.1 i hi).2.2.2 hS hin rfl hd (kk p e s m args below meth c H locs la hF hS hI hl h1 h2)
theorem ev_elen (hd : decode μ.2.1 pc = .ok (.arraylength, 1)) (kk : ev_W l X μ d mc ms Q k n (pc + 1) ls (.int 0 :: st) G) : ev_W l X μ d mc ms Q k n pc ls (.ref (X.2.2.2.1 0) :: st) G := by
  intro p e s m args below meth c H locs la hF hS hI hl h1 h2
  obtain ⟨hx, hb, hr, hml, hlk, hnm, hown, hts, hC⟩ := id hF
  exact va_tlen (A := pm_A X) hx hb hC.2.2.2.1.2.2.2.1 hS rfl hd (kk p e s m args below meth c H locs la hF hS hI hl h1 h2)
theorem ev_ldcM {idx : Nat} (hd : decode μ.2.1 pc = .ok (.ldc idx, 2)) (hw : Cond.classLink μ.1.cls idx "[Ljava/lang/Object;" ∈ pm_WS) (kk : ev_W l X μ d mc ms Q k n (pc + 2) ls (.ref (X.2.2.2.1 1) :: st) G) : ev_W l X μ d mc ms Q k n pc ls st G := by
  intro p e s m args below meth c H locs la hF hS hI hl h1 h2
  obtain ⟨hx, hb, hr, hml, hlk, hnm, hown, hts, hC⟩ := id hF
  exact va_ldcM hx hb hown (hts _ hw) hC.2.2.2.1.2.2.2.2.1 hd (kk p e s m args below meth c H locs la hF hS hI hl h1 h2)
theorem ev_callT {ν : pm_M} {d' N idx i mc' ms' : Nat} {Q' : Option Value → pm_G → Prop} (av : List Value) (hd : decode μ.2.1 pc = .ok (.invokevirtual idx, 3)) (hc : pm_ck ν N) (hw : Cond.methodLink μ.1.cls idx ν.1 ∈ pm_WS) (him : Cond.instanceMethod ν.1 ∈ pm_WS) (hsel : Cond.selects "java/lang/String" ν.1 ν.1 ∈ pm_WS) (hi : i < 18) (hM : cn_M l X ν d' mc' ms' (.ref (pm_sa X i) :: av) G Q') (hN : av.length = N) (hdd : d' + 1 ≤ d) (hst : (st.map fun v => v.category).sum ≤ 8) (hk : k + mc' ≤ mc) (hn : n + ms' ≤ ms) (kk : ∀ r G', Q' r G' → ev_W l X μ d mc ms Q (k + mc') (n + ms') (pc + 3) ls (r.toList ++ st) G') : ev_W l X μ d mc ms Q k n pc ls (av.reverse ++ .ref (pm_sa X i) :: st) G := by
  intro p e s m args below meth c H locs la hF hS hI hl h1 h2
  obtain ⟨hx, hb, hr, hml, hlk, hnm, hown, hts, hC⟩ := id hF
  obtain ⟨hc1, hc2, hc3, hc4⟩ := hc
  refine ev_back (X := X) (Q := Q') (rest := st) (va_runV (C := "java/lang/String") (b := pm_sa X i) (As := av) ⟨hx, hb, hml, hown, hts⟩ hM ⟨callB_of N hts (pm_good hc1) rfl rfl rfl (hts _ hc2) (hts _ hw) hc3 (pm_room hdd hc4), hts _ him, hts _ hsel⟩ ⟨pm_blind, vk_recv (A := pm_A X) hC.2.2.2.1.1 hi hS, fun U hU hW => ⟨rfl, hC.to hW (by rw [hU]; exact hS), by rw [hU]; exact hI⟩⟩ rfl hN hl.1 rfl (lv_room hst) hd ⟨hk, hn⟩) hS (fun r G' H1 locs1 hq hI1 hS1 => kk r G' hq p e s m args below meth c H1 locs1 la hF hS1 hI1 hl hk hn)
theorem ev_copyi {idx a0 a1 n0 n1 : Nat} {f g : Nat → Int32} {sp dp z : Int32} (hd : decode μ.2.1 pc = .ok (.invokestatic idx, 3)) (hw : Cond.methodLink μ.1.cls idx arraycopyName ∈ pm_WS) (hG0 : G a0 = some (κ', .inl (0, n0, .inl f))) (hG1 : G a1 = some (κ, .inl (0, n1, .inl g))) (hs0 : ¬ sp < 0) (hs1 : ¬ dp < 0) (hs2 : ¬ z < 0) (hs3 : sp.toNatClampNeg + z.toNatClampNeg ≤ n0) (hs4 : dp.toNatClampNeg + z.toNatClampNeg ≤ n1) (hst : (st.map fun v => v.category).sum ≤ 8) (hd1 : 1 ≤ d) (kk : ev_W l X μ d mc ms Q k n (pc + 3) ls st (pm_up G a1 (κ, .inl (0, n1, .inl (va_cpy f g sp.toNatClampNeg dp.toNatClampNeg z.toNatClampNeg))))) : ev_W l X μ d mc ms Q k n pc ls (.int z :: .int dp :: .ref a1 :: .int sp :: .ref a0 :: st) G := by
  intro p e s m args below meth c H locs la hF hS hI hl h1 h2
  obtain ⟨hx, hb, hr, hml, hlk, hnm, hown, hts, hC⟩ := id hF
  obtain ⟨ws, hP, hD, hGw⟩ := hI
  obtain ⟨q0, hq0⟩ := List.getElem?_of_mem (hGw a0 _ hG0)
  obtain ⟨q1, hq1⟩ := List.getElem?_of_mem (hGw a1 _ hG1)
  refine va_copyi (D := pm_D X) (ws := ws) (tys := pm_tys X) hx hb (by rw [hml]; exact hl.1.symm) hown (hts _ hw) (hts _ hw_185) (hts _ hw_184) (hts _ hw_19) hC.1 hP hD hS q0 q1 0 0 hq0 hq1 (pm_ty (X := X) (t := 0) rfl) (pm_ty (X := X) (t := 0) rfl) rfl hs0 hs1 hs2 hs3 hs4 (fun _ _ => rfl) hd1 ?_ hd (fun H1 locs1 hP1 hD1 hS1 => kk p e s m args below meth c H1 locs1 la hF hS1 ⟨_, hP1, hD1, pm_In.put (e := (κ, .inl (0, n1, .inl g))) (e' := (κ, .inl (0, n1, .inl (va_cpy f g sp.toNatClampNeg dp.toNatClampNeg z.toNatClampNeg)))) hD hGw hq1⟩ hl h1 h2)
  show _ ≤ 64 * d
  have hw5 : nativeFrameWords "java/lang/System" "arraycopy" 5 ≤ 40 := by decide +kernel
  omega
end EM
