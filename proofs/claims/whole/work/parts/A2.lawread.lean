/-! TESTTEXT.read in full; THE LAW'S read; the script's reading rules -/
def lrd_Q (X : pm_X) (a out sg0 an ka va tq : Nat) (se : Int64) (G : pm_G) (res : Nat × Option pz) (r : Option Value) (G' : pm_G) : Prop :=
  pm_fr (fun c => c = 1 ∨ c = 10 ∨ rd_C c ∨ c = 190) G G' ∧ (∃ of, G' out = some (190, .inl (1, 1, .inr (.inl of))) ∧ (match res.2 with
    | none => 0 < res.1 ∧ r = some (.int 1)
    | some z => res.1 = 0 ∧ r = some (.int 0) ∧ of 0 = (nI (zSn z)).toInt64)) ∧ ∃ pl kv tl sl le ln ta sa sna lf, G' a = some (1, .inr (0, tt_V sg0 0 pl (nI res.1) an 0 se tq 0)) ∧ G' an = some (10, .inr (2, [.ref ka, .ref va, .int 0, .int 0])) ∧ pa_at X G' pl kv tl sl le ln ta sa sna lf (res.2.getD pz_0)
section LR
variable {l : Launch} {X : pm_X} {G : pm_G} {a sg0 n pl an ka va tq rc out : Nat} {wl p : Int32} {se : Int64} {sf : Nat → Int32} {sg : Nat → Nat} {an0 at0 : Int32} {of : Nat → Int64}
theorem c_TT_read (htr : l.stackTraces = false) (hG : G a = some (1, .inr (0, tt_V sg0 n pl wl an p se tq rc))) (hs : G sg0 = some (2, .inl (2, 4000, .inl sf))) (hsg : sg_ok sg sf n) (hn : n ≤ 4000) (ha : G an = some (10, .inr (2, [.ref ka, .ref va, .int an0, .int at0]))) : cn_T l X m_TT_read 10 (4 * n + 16) (1829 * n + 200) [.ref a] G (rdt_Q X a sg0 an ka va tq se G (pz_rd sg n (n + 1) 0 0 pz_0)) :=
  c_TT_read0 (fun Q k m G h1 h2 h3 => ev_ise htr (by decide) h1 h2 h3) hG hs hsg hn ha
theorem pa_at.fr {G' : pm_G} {kv tl sl le ln : Nat} {ta sa sna : Nat → Nat} {lf : Nat → Int32} {z : pz} (h : pa_at X G pl kv tl sl le ln ta sa sna lf z) (ht : zTn z ≤ 12) (hf : pm_fr (fun c => c = 190) G G') : pa_at X G' pl kv tl sl le ln ta sa sna lf z := by
  obtain ⟨h1, h2, h3, h4, h5, h6, h7, h8⟩ := h
  exact ⟨hf _ _ _ h1 (by omega), h2.fr hf (by omega) (by omega), h3.fr hf (fun i hi => by omega), h4.fr hf (by omega) (by omega), h5.fr hf (fun i hi => by omega), fun i hi => hf _ _ _ (h6 i hi) (by omega), hf _ _ _ h7 (by omega), h8⟩
set_option maxHeartbeats 1000000 in
theorem c_Law_read (htr : l.stackTraces = false) (hT : ∀ z, (pz_rd sg n (n + 1) 0 0 pz_0).2 = some z → zTn z ≤ 12) (hG : G a = some (1, .inr (0, tt_V sg0 n pl wl an p se tq rc))) (hs : G sg0 = some (2, .inl (2, 4000, .inl sf))) (hsg : sg_ok sg sf n) (hn : n ≤ 4000) (ha : G an = some (10, .inr (2, [.ref ka, .ref va, .int an0, .int at0]))) (ho : G out = some (190, .inl (1, 1, .inr (.inl of)))) : cn_W l X m_Law_read [(0, 8, 11, 13)] 11 (4 * n + 16) (1829 * n + 200) [.ref a, .ref out] G (lrd_Q X a out sg0 an ka va tq se G (pz_rd sg n (n + 1) 0 0 pz_0)) := by
  refine cn_inW rfl (Nat.le_of_ble_eq_true rfl) ?_
  refine ev_aload_n d_Law_read_0 rfl rfl ?_
  refine ev_iconst (v := 0) d_Law_read_1 (by decide) ?_
  refine ev_aload_n d_Law_read_2 rfl rfl ?_
  refine ev_callVT (av := []) (st := [.int 0, .ref out]) d_Law_read_3 ck_TT_read ml_Law_7 im_TT_read se_TT_read rfl hG (c_TT_read htr hG hs hsg hn ha) rfl (by omega) (Nat.le_of_ble_eq_true rfl) (by omega) (by omega) rfl hw_486 rfl (by decide) hw_487 ?_ ?_
  · rintro v G1 ⟨f1, q1, q2⟩
    have o1 := f1 _ _ _ ho (by unfold rd_C; omega)
    cases hres : pz_rd sg n (n + 1) 0 0 pz_0 with
    | mk w o =>
    rw [hres] at q1 q2 hT
    cases o with
    | none => obtain ⟨-, ex, hx⟩ := q1; cases hx
    | some z =>
      obtain ⟨w0, hv⟩ := q1
      cases hv
      obtain ⟨pl', kv', tl', sl', le', ln', ta', sa', sna', lf', u1, u2, u3⟩ := q2
      have h01 : vp_in (0 : Int32) 1 := (vp_in_nI (by decide) (by decide) : vp_in (nI 0) 1)
      refine ev_i2l d_Law_read_6 ?_
      refine ev_last d_Law_read_7 rfl (by first | assumption | exact pm_up_eq | (refine pm_up_ne (by first | assumption | (apply Ne.symm; assumption) | exact pm_neK (G := G) (by assumption) (by assumption) (by omega) | exact pm_neOA (G := G) (by assumption) (by assumption) | exact (pm_neOA (G := G) (by assumption) (by assumption)).symm | exact pm_neN (G := G) (by assumption) (by assumption) | exact (pm_neN (G := G) (by assumption) (by assumption)).symm) ?_; first | assumption | exact pm_up_eq | (refine pm_up_ne (by first | assumption | (apply Ne.symm; assumption) | exact pm_neK (G := G) (by assumption) (by assumption) (by omega) | exact pm_neOA (G := G) (by assumption) (by assumption) | exact (pm_neOA (G := G) (by assumption) (by assumption)).symm | exact pm_neN (G := G) (by assumption) (by assumption) | exact (pm_neN (G := G) (by assumption) (by assumption)).symm) ?_; first | assumption | exact pm_up_eq | (refine pm_up_ne (by first | assumption | (apply Ne.symm; assumption) | exact pm_neK (G := G) (by assumption) (by assumption) (by omega) | exact pm_neOA (G := G) (by assumption) (by assumption) | exact (pm_neOA (G := G) (by assumption) (by assumption)).symm | exact pm_neN (G := G) (by assumption) (by assumption) | exact (pm_neN (G := G) (by assumption) (by assumption)).symm) ?_; first | assumption | exact pm_up_eq | (refine pm_up_ne (by first | assumption | (apply Ne.symm; assumption) | exact pm_neK (G := G) (by assumption) (by assumption) (by omega) | exact pm_neOA (G := G) (by assumption) (by assumption) | exact (pm_neOA (G := G) (by assumption) (by assumption)).symm | exact pm_neN (G := G) (by assumption) (by assumption) | exact (pm_neN (G := G) (by assumption) (by assumption)).symm) ?_; first | assumption | exact pm_up_eq | (refine pm_up_ne (by first | assumption | (apply Ne.symm; assumption) | exact pm_neK (G := G) (by assumption) (by assumption) (by omega) | exact pm_neOA (G := G) (by assumption) (by assumption) | exact (pm_neOA (G := G) (by assumption) (by assumption)).symm | exact pm_neN (G := G) (by assumption) (by assumption) | exact (pm_neN (G := G) (by assumption) (by assumption)).symm) ?_; first | assumption | exact pm_up_eq)))))) (by first | assumption | exact vp_in_nI (by omega) (by omega)) ?_
      refine ev_goto 14 d_Law_read_8 (by decide) ?_
      refine ev_iconst (v := 0) d_Law_read_14 (by decide) ?_
      have f2 : pm_fr (fun c => c = 190) G1 (pm_up G1 out (190, .inl (1, 1, .inr (.inl (vp_updL of 0 (nI (zSn z)).toInt64))))) := pm_fr.put o1 rfl
      refine ev_iret d_Law_read_15 rfl ⟨(f1.mono (fun c q => by rcases q with q | q | q; exact Or.inl q; exact Or.inr (Or.inl q); exact Or.inr (Or.inr (Or.inl q)))).tr (f2.mono (fun c q => Or.inr (Or.inr (Or.inr q)))), ⟨_, pm_up_eq, w0, rfl, ?_⟩, pl', kv', tl', sl', le', ln', ta', sa', sna', lf', f2 _ _ _ u1 (by omega), f2 _ _ _ u2 (by omega), u3.fr (hT z rfl) f2⟩
      simp [vp_updL]
  · rintro ex G1 ⟨f1, q1, q2⟩
    have o1 := f1 _ _ _ ho (by unfold rd_C; omega)
    cases hres : pz_rd sg n (n + 1) 0 0 pz_0 with
    | mk w o =>
    rw [hres] at q1 q2 hT
    cases o with
    | some z => obtain ⟨-, hx⟩ := q1; cases hx
    | none =>
      refine ev_astore_n d_Law_read_11 rfl (by decide) ?_
      refine ev_iconst (v := 1) d_Law_read_12 (by decide) ?_
      exact ev_iret d_Law_read_13 rfl ⟨f1.mono (fun c q => by rcases q with q | q | q; exact Or.inl q; exact Or.inr (Or.inl q); exact Or.inr (Or.inr (Or.inl q))), ⟨of, o1, q1.1, rfl⟩, q2⟩
end LR
/-- the script's address, its length, its numbers -/
abbrev lw_b (X : pm_X) : Nat := X.2.2.2.1 38
def sX (X : pm_X) (i : Int32) : Int32 := Int32.ofNat (X.2.2.2.1 (40 + i.toNatClampNeg))
section SL
variable {l : Launch} {X : pm_X} {μ : pm_M} {d mc ms k n pc : Nat} {Q : Option Value → pm_G → Prop} {ls : List (Nat × Value)} {st : List Value} {G : pm_G}
theorem ev_sld {i : Int32} (hd : decode μ.2.1 pc = .ok (.iaload, 1)) (hin : vp_in i (X.2.2.2.1 39)) (kk : ev_W l X μ d mc ms Q k n (pc + 1) ls (.int (sX X i) :: st) G) : ev_W l X μ d mc ms Q k n pc ls (.int i :: .ref (lw_b X) :: st) G := by
  intro p e s m args below meth c H locs la hF hS hI hl h1 h2
  obtain ⟨hx, hb, hr, hml, hlk, hnm, hown, hts, hC⟩ := id hF
  exact va_ti (A := pm_A X) hx hb hC.2.2.2.1.2.2.2.2.2.2.2.2.2 hS hin rfl hd (kk p e s m args below meth c H locs la hF hS hI hl h1 h2)
theorem ev_slen (hd : decode μ.2.1 pc = .ok (.arraylength, 1)) (kk : ev_W l X μ d mc ms Q k n (pc + 1) ls (.int (nI (X.2.2.2.1 39)) :: st) G) : ev_W l X μ d mc ms Q k n pc ls (.ref (lw_b X) :: st) G := by
  intro p e s m args below meth c H locs la hF hS hI hl h1 h2
  obtain ⟨hx, hb, hr, hml, hlk, hnm, hown, hts, hC⟩ := id hF
  exact va_tlen (A := pm_A X) hx hb hC.2.2.2.1.2.2.2.2.2.2.2.2.2 hS rfl hd (kk p e s m args below meth c H locs la hF hS hI hl h1 h2)
end SL
