/-! THE LAW'S WORLD between two calls; how a case goes on -/
theorem mo_at.rs {G0 G : pm_G} {a : Nat} {A : Nat → Nat} {I : Nat → Int32} {J : Nat → Int64} {M : Nat → Nat → Int32} {W : Nat → Nat → Int64} (h : mo_at G0 a A I J M W G) : mo_at G a A I J M W G := ⟨h.1, h.2.1, h.2.2.1, h.2.2.2.1, pm_fr.rf⟩
theorem mo_at.f0 {G0 G : pm_G} {a : Nat} {A : Nat → Nat} {I : Nat → Int32} {J : Nat → Int64} {M : Nat → Nat → Int32} {W : Nat → Nat → Int64} (h : mo_at G0 a A I J M W G) : pm_fr mo_C G0 G := h.2.2.2.2
theorem mo_at.cl {G0 G G' : pm_G} {a : Nat} {A : Nat → Nat} {I : Nat → Int32} {J : Nat → Int64} {M : Nat → Nat → Int32} {W : Nat → Nat → Int64} {S : Nat → Prop} (h : mo_at G0 a A I J M W G) (hf : pm_fr S G G') (hS : ∀ c, mo_C c → ¬ S c) : mo_at G' a A I J M W G' := by
  obtain ⟨h1, h2, h3, h4, -⟩ := h
  have k : ∀ i v, mo_kd i = v → v ≠ 9 → mo_C (121 + i) := fun i v hv hn => by
    have := mo_lt (i := i) (by rw [hv]; exact hn)
    unfold mo_C
    omega
  exact ⟨hf _ _ _ h1 (hS _ (by unfold mo_C; omega)), fun i hi => hf _ _ _ (h2 i hi) (hS _ (k i _ hi (by decide))), fun i hi => hf _ _ _ (h3 i hi) (hS _ (k i _ hi (by decide))), fun i hi => hf _ _ _ (h4 i hi) (hS _ (k i _ hi (by decide))), pm_fr.rf⟩
def lw_R (X : pm_X) (a mo out sc : Nat) (A : Nat → Nat) (G : pm_G) : Prop :=
  ∃ sg0 pl an p0 tq rc ka va kv tl sl le ln n told wl se sf lf tf D ta sa sna z kf vf td bg c av at' ax I J M W of, lc_R X G a sg0 sc pl an p0 tq rc ka va kv tl sl le ln n told wl se sf lf tf D ta sa sna z kf vf td bg ∧ lp_R sc p0 rc ln se sf lf D z td ∧ mo_at G mo A I J M W G ∧ lm_R c sc p0 rc n told wl se sf D z kf vf td bg av at' ax I J M W ∧ G out = some (190, .inl (1, 1, .inr (.inl of)))
abbrev lw_ls (X : pm_X) (a mo out : Nat) (i : Int32) : List (Nat × Value) := [(0, .ref (lw_b X)), (1, .ref a), (2, .ref mo), (3, .ref out), (4, .int i)]
def lw_K (l : Launch) (X : pm_X) (a mo out : Nat) (A : Nat → Nat) (i : Int32) (mc ms : Nat) (Q : Option Value → pm_G → Prop) (k n sc : Nat) : Prop :=
  ∀ k' n' sc' G', lw_R X a mo out sc' A G' → k' + 4 * sc' ≤ k + 4 * sc + 20 → n' + 1829 * sc' ≤ n + 1829 * sc + 7500 → ev_W l X m_Law_law 40 mc ms Q k' n' 668 (lw_ls X a mo out i) [] G'
/-- an answer that is one of a test -/
theorem q_one {P : Prop} {tn : Nat} {x v0 : Int32} {f : Nat → Int32} {r : Option Value} (h : (P ∧ r = some (.int v0)) ∨ ∃ j, j < tn ∧ x = nI (j + 1) ∧ r = some (.int (f j))) : ∃ v, r = some (.int v) ∧ ((P ∧ v = v0) ∨ ∃ j, j < tn ∧ x = nI (j + 1) ∧ v = f j) := by
  rcases h with ⟨h1, h2⟩ | ⟨j, j1, j2, j3⟩
  · exact ⟨v0, h2, Or.inl ⟨h1, rfl⟩⟩
  · exact ⟨f j, j3, Or.inr ⟨j, j1, j2, rfl⟩⟩
theorem q_out {tn j : Nat} {x : Int32} (ht : tn < 2 ^ 31) (h : x < 1 ∨ nI tn < x) (hj : j < tn) (hx : x = nI (j + 1)) : False := by
  subst hx
  rcases h with h | h
  · exact nI_nlt (a := j + 1) (b := 1) (by omega) (by omega) h
  · exact nI_nlt (a := tn) (b := j + 1) (by omega) (by omega) h
theorem q_eq {tn : Nat} {x v0 v w : Int32} {f : Nat → Int32} (ht : tn < 2 ^ 31) (h1 : ((x < 1 ∨ nI tn < x) ∧ v = v0) ∨ ∃ j, j < tn ∧ x = nI (j + 1) ∧ v = f j) (h2 : ((x < 1 ∨ nI tn < x) ∧ w = v0) ∨ ∃ j, j < tn ∧ x = nI (j + 1) ∧ w = f j) : v = w := by
  rcases h1 with ⟨a1, a2⟩ | ⟨j, j1, j2, j3⟩
  · rcases h2 with ⟨b1, b2⟩ | ⟨i, i1, i2, i3⟩
    · rw [a2, b2]
    · exact (q_out ht a1 i1 i2).elim
  · rcases h2 with ⟨b1, b2⟩ | ⟨i, i1, i2, i3⟩
    · exact (q_out ht b1 j1 j2).elim
    · have e : j + 1 = i + 1 := (nI_eq (by omega) (by omega)).mp (j2.symm.trans i2)
      have e : j = i := by omega
      rw [j3, i3, e]
theorem fd_eq {A B : tr_D} {v w : Int32} (h1 : fd_R A B v) (h2 : fd_R A B w) : v = w := by
  rcases h1 with ⟨i, i1, i2, i3, i4, i5⟩ | ⟨a1, a2⟩
  · rcases h2 with ⟨j, j1, j2, j3, j4, j5⟩ | ⟨b1, b2⟩
    · have e : i = j := by
        rcases Nat.lt_trichotomy i j with h | h | h
        · exact absurd (j3 i h) i4
        · exact h
        · exact absurd (i3 j h) j4
      rw [i5, j5, e]
    · exact absurd (b1 i i1 i2) i4
  · rcases h2 with ⟨j, j1, j2, j3, j4, j5⟩ | ⟨b1, b2⟩
    · exact absurd (a1 j j1 j2) j4
    · rw [a2, b2]
section LQ
variable {X : pm_X} {G G' : pm_G} {a sg0 sc pl an p0 tq rc ka va kv tl sl le ln n told c mo out : Nat} {wl : Int32} {se : Int64} {sf lf : Nat → Int32} {tf : Nat → Option Nat} {D : Nat → tr_D} {ta sa sna : Nat → Nat} {z : pz} {kf : Nat → Nat} {vf : Nat → Int32} {td : Nat → Nat → Int32} {bg : Nat → Int32} {av at' : Nat → Nat} {ax : Nat → Int32} {I : Nat → Int32} {J : Nat → Int64} {M : Nat → Nat → Int32} {W : Nat → Nat → Int64} {A : Nat → Nat} {of : Nat → Int64}
theorem lp_R.t12 (hp : lp_R sc p0 rc ln se sf lf D z td) : zTn z ≤ 12 := hp.1.1.2.2.1
theorem lm_R.i0 (h : lm_R c sc p0 rc n told wl se sf D z kf vf td bg av at' ax I J M W) : lm_R c sc p0 rc n told wl se sf D z kf vf td bg av at' ax (va_up I 0 0) J M W := h
/-- a question: the class's cells are as they were, the model's too but for 'thrown' -/
theorem lw_q (hc : lc_R X G a sg0 sc pl an p0 tq rc ka va kv tl sl le ln n told wl se sf lf tf D ta sa sna z kf vf td bg) (hp : lp_R sc p0 rc ln se sf lf D z td) (hm : lm_R c sc p0 rc n told wl se sf D z kf vf td bg av at' ax I J M W) (ho : G out = some (190, .inl (1, 1, .inr (.inl of)))) (h2 : mo_at G mo A (va_up I 0 0) J M W G') : lw_R X a mo out sc A G' :=
  ⟨sg0, pl, an, p0, tq, rc, ka, va, kv, tl, sl, le, ln, n, told, wl, se, sf, lf, tf, D, ta, sa, sna, z, kf, vf, td, bg, c, av, at', ax, _, J, M, W, of, hc.mo hp.t12 h2.f0, hp, h2.rs, hm.i0, h2.f0 _ _ _ ho (by unfold mo_C; omega)⟩
end LQ
