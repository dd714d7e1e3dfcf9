/-! two contents of an array that agree on its places are the same cell; getClass; arraycopy of references -/
theorem pm_ext {X : pm_X} {G : pm_G} {a : Nat} {e e' : pm_E} {H : Heap} (he : va_at (pm_D X) classes (a, pm_e X e.2) H → va_at (pm_D X) classes (a, pm_e X e'.2) H) (h : pm_In X (pm_up G a e) H) : pm_In X (pm_up G a e') H := by
  obtain ⟨ws, hP, hD, hG⟩ := h
  obtain ⟨i, hi⟩ := List.getElem?_of_mem (hG a e pm_up_eq)
  refine ⟨ws.set i (a, pm_e X e'.2), hP.set hD hi (he (hP i _ hi)) (fun _ _ => rfl), hD.set hi, ?_⟩
  have h2 := pm_In.put (X := X) (G := pm_up G a e) (a := a) (e := e) (e' := e') hD hG hi
  rw [pm_up_up] at h2
  exact h2
theorem pm_arrV {cA : ClassId} {N : Nat} {f g : Nat → Value} (h : ∀ j, j < N → f j = g j) : arrV cA N f = arrV cA N g := by
  unfold arrV
  congr 1
  apply Array.ext
  · simp
  · intro i h1 h2
    simp only [Array.getElem_ofFn]
    exact h i (by simpa using h1)
section EX
variable {l : Launch} {X : pm_X} {μ : pm_M} {d mc ms k n pc : Nat} {Q : Option Value → pm_G → Prop} {ls : List (Nat × Value)} {st : List Value} {G : pm_G} {κ : Nat}
theorem ev_exti {t N a : Nat} {f : Nat → Int32} (g : Nat → Int32) (h : ∀ j, j < N → f j = g j) (kk : ev_W l X μ d mc ms Q k n pc ls st (pm_up G a (κ, .inl (t, N, .inl g)))) : ev_W l X μ d mc ms Q k n pc ls st (pm_up G a (κ, .inl (t, N, .inl f))) := by
  intro p e s m args below meth c H locs la hF hS hI hl h1 h2
  refine kk p e s m args below meth c H locs la hF hS (pm_ext (fun hz => ?_) hI) hl h1 h2
  have e1 : vp_cell (pm_tc X t) (N, .inl f) = vp_cell (pm_tc X t) (N, .inl g) := by
    rw [vp_cell_i, vp_cell_i]
    exact pm_arrV (fun j hj => by rw [h j hj])
  have hz' : H[a]? = some (vp_cell (pm_tc X t) (N, .inl f)) := hz
  show H[a]? = some (vp_cell (pm_tc X t) (N, .inl g))
  rw [← e1]
  exact hz'
theorem ev_extl {t N a : Nat} {f : Nat → Int64} (g : Nat → Int64) (h : ∀ j, j < N → f j = g j) (kk : ev_W l X μ d mc ms Q k n pc ls st (pm_up G a (κ, .inl (t, N, .inr (.inl g))))) : ev_W l X μ d mc ms Q k n pc ls st (pm_up G a (κ, .inl (t, N, .inr (.inl f)))) := by
  intro p e s m args below meth c H locs la hF hS hI hl h1 h2
  refine kk p e s m args below meth c H locs la hF hS (pm_ext (fun hz => ?_) hI) hl h1 h2
  have e1 : vp_cell (pm_tc X t) (N, .inr (.inl f)) = vp_cell (pm_tc X t) (N, .inr (.inl g)) := by
    rw [vp_cell_l, vp_cell_l]
    exact pm_arrV (fun j hj => by rw [h j hj])
  have hz' : H[a]? = some (vp_cell (pm_tc X t) (N, .inr (.inl f))) := hz
  show H[a]? = some (vp_cell (pm_tc X t) (N, .inr (.inl g)))
  rw [← e1]
  exact hz'
theorem ev_extq {t N a : Nat} {f : Nat → Option Nat} (g : Nat → Option Nat) (h : ∀ j, j < N → f j = g j) (kk : ev_W l X μ d mc ms Q k n pc ls st (pm_up G a (κ, .inl (t, N, .inr (.inr (.inr (.inr g))))))) : ev_W l X μ d mc ms Q k n pc ls st (pm_up G a (κ, .inl (t, N, .inr (.inr (.inr (.inr f)))))) := by
  intro p e s m args below meth c H locs la hF hS hI hl h1 h2
  refine kk p e s m args below meth c H locs la hF hS (pm_ext (fun hz => ?_) hI) hl h1 h2
  have e1 : vp_cell (pm_tc X t) (N, .inr (.inr (.inr (.inr f)))) = vp_cell (pm_tc X t) (N, .inr (.inr (.inr (.inr g)))) := by
    rw [vp_cell_q, vp_cell_q]
    exact pm_arrV (fun j hj => by rw [h j hj])
  have hz' : H[a]? = some (vp_cell (pm_tc X t) (N, .inr (.inr (.inr (.inr f))))) := hz
  show H[a]? = some (vp_cell (pm_tc X t) (N, .inr (.inr (.inr (.inr g)))))
  rw [← e1]
  exact hz'
end EX
section LP
variable {l : Launch} {X : pm_X} {G : pm_G} {κ : Nat}
theorem c_Arrs_fill {a N : Nat} {f : Nat → Int32} {x : Int32} (hG : G a = some (κ, .inl (0, N, .inl f))) (hN : N < 2 ^ 31) : cn_M l X m_Arrs_fill 0 0 0 [.ref a, .int x] G (fun r G' => r = none ∧ G' = pm_up G a (κ, .inl (0, N, .inl (fun _ => x)))) := by
  refine cn_in rfl (Nat.le_of_ble_eq_true rfl) ?_
  have loop : ∀ (n i : Nat) (g : Nat → Int32) (G' : pm_G), i ≤ N → N - i < n → (∀ j, j < i → g j = x) → G' a = some (κ, .inl (0, N, .inl g)) → (∀ e, pm_up G' a e = pm_up G a e) → ev_W l X m_Arrs_fill 0 0 0 (fun r G' => r = none ∧ G' = pm_up G a (κ, .inl (0, N, .inl (fun _ => x)))) 0 0 5 [(0, .ref a), (1, .int x), (2, .int (nI i)), (3, .int (nI N))] [] G' := by
    intro n
    induction n with
    | zero => intro i g G' h1 h2; omega
    | succ n ih =>
      intro i g G' h1 h2 h3 h4 h5
      refine ev_iload_n d_Arrs_fill_5 rfl rfl ?_
      refine ev_iload_n d_Arrs_fill_6 rfl rfl ?_
      refine ev_icmp_ge 20 d_Arrs_fill_7 (by decide) (fun hc => ?_) (fun hc => ?_)
      · have e : i = N := by
          rcases Nat.lt_or_ge i N with q | q
          · exact absurd hc (nI_ge q hN)
          · omega
        subst e
        have e1 : G' = pm_up G a (κ, .inl (0, i, .inl g)) := by
          rw [← h5]
          funext q
          unfold pm_up
          by_cases hq : q = a
          · rw [if_pos hq, hq, h4]
          · rw [if_neg hq]
        refine ev_eqG e1 ?_
        refine ev_exti (fun _ => x) (fun j hj => h3 j hj) ?_
        exact ev_vret d_Arrs_fill_20 rfl (⟨rfl, rfl⟩)
      · have hlt : i < N := by
          rcases Nat.lt_or_ge i N with q | q
          · exact q
          · exact absurd (nI_le q (by omega)) hc
        refine ev_aload_n d_Arrs_fill_10 rfl rfl ?_
        refine ev_iload_n d_Arrs_fill_11 rfl rfl ?_
        refine ev_iload_n d_Arrs_fill_12 rfl rfl ?_
        refine ev_iast d_Arrs_fill_13 rfl (by first | assumption | exact pm_up_eq | (refine pm_up_ne (by first | assumption | (apply Ne.symm; assumption) | exact pm_neK (G := G) (by assumption) (by assumption) (by omega) | exact pm_neOA (G := G) (by assumption) (by assumption) | exact (pm_neOA (G := G) (by assumption) (by assumption)).symm | exact pm_neN (G := G) (by assumption) (by assumption) | exact (pm_neN (G := G) (by assumption) (by assumption)).symm) ?_; first | assumption | exact pm_up_eq | (refine pm_up_ne (by first | assumption | (apply Ne.symm; assumption) | exact pm_neK (G := G) (by assumption) (by assumption) (by omega) | exact pm_neOA (G := G) (by assumption) (by assumption) | exact (pm_neOA (G := G) (by assumption) (by assumption)).symm | exact pm_neN (G := G) (by assumption) (by assumption) | exact (pm_neN (G := G) (by assumption) (by assumption)).symm) ?_; first | assumption | exact pm_up_eq | (refine pm_up_ne (by first | assumption | (apply Ne.symm; assumption) | exact pm_neK (G := G) (by assumption) (by assumption) (by omega) | exact pm_neOA (G := G) (by assumption) (by assumption) | exact (pm_neOA (G := G) (by assumption) (by assumption)).symm | exact pm_neN (G := G) (by assumption) (by assumption) | exact (pm_neN (G := G) (by assumption) (by assumption)).symm) ?_; first | assumption | exact pm_up_eq | (refine pm_up_ne (by first | assumption | (apply Ne.symm; assumption) | exact pm_neK (G := G) (by assumption) (by assumption) (by omega) | exact pm_neOA (G := G) (by assumption) (by assumption) | exact (pm_neOA (G := G) (by assumption) (by assumption)).symm | exact pm_neN (G := G) (by assumption) (by assumption) | exact (pm_neN (G := G) (by assumption) (by assumption)).symm) ?_; first | assumption | exact pm_up_eq | (refine pm_up_ne (by first | assumption | (apply Ne.symm; assumption) | exact pm_neK (G := G) (by assumption) (by assumption) (by omega) | exact pm_neOA (G := G) (by assumption) (by assumption) | exact (pm_neOA (G := G) (by assumption) (by assumption)).symm | exact pm_neN (G := G) (by assumption) (by assumption) | exact (pm_neN (G := G) (by assumption) (by assumption)).symm) ?_; first | assumption | exact pm_up_eq)))))) (by first | assumption | exact vp_in_nI (by omega) (by omega)) ?_
        refine ev_iinc d_Arrs_fill_14 rfl (by first | exact nI_1 _ | rfl) (by decide) ?_
        refine ev_goto 5 d_Arrs_fill_17 (by decide) ?_
        refine ih (i + 1) _ _ hlt (by omega) ?_ pm_up_eq (fun e => by rw [pm_up_up]; exact h5 e)
        intro j hj
        rw [nI_clamp (by omega)]
        by_cases hji : j = i
        · rw [hji]; exact pk_us
        · rw [pk_un hji]; exact h3 j (by omega)
  refine ev_iconst (v := 0) d_Arrs_fill_0 (by decide) ?_
  refine ev_istore_n d_Arrs_fill_1 rfl (by decide) ?_
  refine ev_aload_n d_Arrs_fill_2 rfl rfl ?_
  refine ev_alen d_Arrs_fill_3 rfl (by first | assumption | exact pm_up_eq | (refine pm_up_ne (by first | assumption | (apply Ne.symm; assumption) | exact pm_neK (G := G) (by assumption) (by assumption) (by omega) | exact pm_neOA (G := G) (by assumption) (by assumption) | exact (pm_neOA (G := G) (by assumption) (by assumption)).symm | exact pm_neN (G := G) (by assumption) (by assumption) | exact (pm_neN (G := G) (by assumption) (by assumption)).symm) ?_; first | assumption | exact pm_up_eq | (refine pm_up_ne (by first | assumption | (apply Ne.symm; assumption) | exact pm_neK (G := G) (by assumption) (by assumption) (by omega) | exact pm_neOA (G := G) (by assumption) (by assumption) | exact (pm_neOA (G := G) (by assumption) (by assumption)).symm | exact pm_neN (G := G) (by assumption) (by assumption) | exact (pm_neN (G := G) (by assumption) (by assumption)).symm) ?_; first | assumption | exact pm_up_eq | (refine pm_up_ne (by first | assumption | (apply Ne.symm; assumption) | exact pm_neK (G := G) (by assumption) (by assumption) (by omega) | exact pm_neOA (G := G) (by assumption) (by assumption) | exact (pm_neOA (G := G) (by assumption) (by assumption)).symm | exact pm_neN (G := G) (by assumption) (by assumption) | exact (pm_neN (G := G) (by assumption) (by assumption)).symm) ?_; first | assumption | exact pm_up_eq | (refine pm_up_ne (by first | assumption | (apply Ne.symm; assumption) | exact pm_neK (G := G) (by assumption) (by assumption) (by omega) | exact pm_neOA (G := G) (by assumption) (by assumption) | exact (pm_neOA (G := G) (by assumption) (by assumption)).symm | exact pm_neN (G := G) (by assumption) (by assumption) | exact (pm_neN (G := G) (by assumption) (by assumption)).symm) ?_; first | assumption | exact pm_up_eq | (refine pm_up_ne (by first | assumption | (apply Ne.symm; assumption) | exact pm_neK (G := G) (by assumption) (by assumption) (by omega) | exact pm_neOA (G := G) (by assumption) (by assumption) | exact (pm_neOA (G := G) (by assumption) (by assumption)).symm | exact pm_neN (G := G) (by assumption) (by assumption) | exact (pm_neN (G := G) (by assumption) (by assumption)).symm) ?_; first | assumption | exact pm_up_eq)))))) ?_
  refine ev_istore_n d_Arrs_fill_4 rfl (by decide) ?_
  exact loop (N + 1) 0 f G (Nat.zero_le _) (by omega) (fun j hj => absurd hj (by omega)) hG (fun e => rfl)
end LP
