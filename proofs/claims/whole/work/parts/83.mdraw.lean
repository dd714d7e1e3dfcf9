/-! DRAWN NUMBERS AND FAULTS: the arithmetic -/
theorem dr_and {x : Nat} (_h : x < 2 ^ 63) : lN x &&& 4294967295 = lN (x % 4294967296) := by
  apply Int64.toBitVec_inj.mp
  rw [Int64.toBitVec_and]
  apply BitVec.eq_of_toNat_eq
  rw [BitVec.toNat_and]
  show (BitVec.ofNat 64 x).toNat &&& (BitVec.ofNat 64 4294967295).toNat = (BitVec.ofNat 64 (x % 4294967296)).toNat
  rw [BitVec.toNat_ofNat, BitVec.toNat_ofNat, BitVec.toNat_ofNat]
  rw [show (4294967295 % 2 ^ 64) = 2 ^ 32 - 1 by decide, Nat.and_two_pow_sub_one_eq_mod]
  omega
theorem dr_sh {d : Nat} (h : d < 2 ^ 32) : ((lN d).toUInt64 >>> ((16 : Int32).toInt64.toUInt64 &&& Int64.toUInt64 63)).toInt64.toInt32 = nI (d / 65536) := by
  have e : ((16 : Int32).toInt64.toUInt64 &&& Int64.toUInt64 63) = 16 := by decide
  rw [e]
  apply Int32.toBitVec_inj.mp
  apply BitVec.eq_of_toNat_eq
  rw [Int64.toBitVec_toInt32]
  show (BitVec.signExtend 32 ((BitVec.ofNat 64 d) >>> 16)).toNat = _
  rw [BitVec.signExtend_eq_setWidth_of_le _ (by decide), BitVec.toNat_setWidth, BitVec.toNat_ushiftRight, BitVec.toNat_ofNat, Nat.shiftRight_eq_div_pow]
  show _ = (BitVec.ofNat 32 (d / 65536)).toNat
  rw [BitVec.toNat_ofNat]
  omega
def fb (m : Int32) (f : Nat) : Int32 := if m &&& ((1 : Int32) <<< (nI f &&& 31)) = 0 then 0 else 1
theorem sh_b : ∀ f, f < 9 → ((1 : Int32) <<< (nI f &&& 31)).toBitVec = BitVec.twoPow 32 f := by decide
theorem fb_bit {m : Int32} {f : Nat} (hf : f < 9) : fb m f = if m.toBitVec.getLsbD f then 1 else 0 := by
  unfold fb
  have e : (m &&& ((1 : Int32) <<< (nI f &&& 31)) = 0) ↔ m.toBitVec.getLsbD f = false := by
    rw [← Int32.toBitVec_inj, Int32.toBitVec_and, sh_b f hf, BitVec.and_twoPow]
    constructor
    · intro h
      cases hq : m.toBitVec.getLsbD f with
      | false => rfl
      | true =>
        rw [hq, if_pos rfl] at h
        have := congrArg (fun x : BitVec 32 => x.getLsbD f) h
        simp only [BitVec.getLsbD_twoPow] at this
        rw [show (0 : Int32).toBitVec = 0#32 from rfl, BitVec.getLsbD_zero] at this
        simp at this
        omega
    · intro h
      rw [h]
      rfl
  cases hq : m.toBitVec.getLsbD f with
  | false => rw [if_pos (e.mpr hq)]; rfl
  | true => rw [if_neg (fun h => by rw [e.mp h] at hq; cases hq)]; rfl
theorem fb_on {m : Int32} {f g : Nat} (hf : f < 9) (hg : g < 9) : fb (m ||| (1 : Int32) <<< (nI g &&& 31)) f = if f = g then 1 else fb m f := by
  rw [fb_bit hf, fb_bit hf, Int32.toBitVec_or, sh_b g hg, BitVec.getLsbD_or, BitVec.getLsbD_twoPow]
  by_cases q : f = g
  · subst q; simp; omega
  · rw [if_neg q]; simp [show ¬ g = f from fun z => q z.symm]
theorem fb_off {m : Int32} {f g : Nat} (hf : f < 9) (hg : g < 9) : fb (m &&& ((1 : Int32) <<< (nI g &&& 31) ^^^ (-1))) f = if f = g then 0 else fb m f := by
  rw [fb_bit hf, fb_bit hf, Int32.toBitVec_and, Int32.toBitVec_xor, sh_b g hg, BitVec.getLsbD_and, BitVec.getLsbD_xor, BitVec.getLsbD_twoPow]
  have e : (-1 : Int32).toBitVec.getLsbD f = true := by
    have : ∀ f, f < 9 → (-1 : Int32).toBitVec.getLsbD f = true := by decide
    exact this f hf
  rw [e]
  by_cases q : f = g
  · subst q; simp; omega
  · rw [if_neg q]; simp [show ¬ g = f from fun z => q z.symm]
theorem i_of {x : Int32} {n : Nat} (h : x.toInt = (n : Int)) : x = nI n := by
  apply Int32.toInt_inj.mp
  have := Int32.toInt_lt x
  rw [h, nI_toInt (by omega)]
theorem l_of {x : Int64} {n : Nat} (hn : n < 2 ^ 31) (h : x.toInt = (n : Int)) : x = lN n := by
  apply Int64.toInt_inj.mp
  rw [h, lN_toInt hn]
/-- the drawn number -/
theorem dv_is {lo hi : Int32} {d : Nat} (h1 : -999999 ≤ lo) (h2 : lo ≤ hi) (h3 : hi ≤ 999999) (hd : d < 2 ^ 32) : ∃ m, 0 < m ∧ m < 2 ^ 31 ∧ hi.toInt64 - lo.toInt64 + 1 = lN m ∧ lo.toInt64 + lN (d / 65536 % m) = (rs_dv lo hi (lN d)).toInt64 ∧ rs_dv lo hi (lN d) ≠ -1000000 := by
  have a1 : -999999 ≤ lo.toInt := Int32.le_iff_toInt_le.mp h1
  have a2 : lo.toInt ≤ hi.toInt := Int32.le_iff_toInt_le.mp h2
  have a3 : hi.toInt ≤ 999999 := Int32.le_iff_toInt_le.mp h3
  obtain ⟨m, hm⟩ : ∃ m : Nat, (m : Int) = hi.toInt - lo.toInt + 1 := ⟨(hi.toInt - lo.toInt + 1).toNat, by omega⟩
  have e1 : hi - lo + 1 = nI m := by
    apply i_of
    rw [Int32.toInt_add, Int32.toInt_sub, Int.bmod_eq_of_le (n := hi.toInt - lo.toInt) (by omega) (by omega), show (1 : Int32).toInt = 1 from rfl, Int.bmod_eq_of_le (by omega) (by omega), hm]
  have e2 : hi.toInt64 - lo.toInt64 + 1 = lN m := by
    apply l_of (by omega)
    rw [Int64.toInt_add, Int64.toInt_sub, Int32.toInt_toInt64, Int32.toInt_toInt64, Int.bmod_eq_of_le (n := hi.toInt - lo.toInt) (by omega) (by omega), show (1 : Int64).toInt = 1 from rfl, Int.bmod_eq_of_le (by omega) (by omega), hm]
  have hk : d / 65536 < 65536 := by omega
  have hlt : d / 65536 % m < m := Nat.mod_lt _ (by omega)
  have e3 : rs_dv lo hi (lN d) = lo + nI (d / 65536 % m) := by
    unfold rs_dv
    rw [dr_sh hd, e1]
    have e4 : (if (1 : Int32) < nI m then nI m else 1) = nI m := by
      by_cases q : (1 : Int32) < nI m
      · rw [if_pos q]
      · rw [if_neg q]
        have : ¬ 1 < m := fun z => q (nI_lt (a := 1) z (by omega))
        rw [show m = 1 by omega]; rfl
    rw [e4, pk_rem (by omega) (by omega) (by omega)]
  have e5 : (lo + nI (d / 65536 % m)).toInt = lo.toInt + ((d / 65536 % m : Nat) : Int) := by
    rw [Int32.toInt_add, nI_toInt (by omega), Int.bmod_eq_of_le (by omega) (by omega)]
  refine ⟨m, by omega, by omega, e2, ?_, ?_⟩
  · apply Int64.toInt_inj.mp
    rw [e3, Int32.toInt_toInt64, e5, Int64.toInt_add, Int32.toInt_toInt64, lN_toInt (by omega), Int.bmod_eq_of_le (by omega) (by omega)]
  · rw [e3]
    intro q
    rw [q] at e5
    have : (-1000000 : Int32).toInt = -1000000 := by decide
    omega
/-- the next number -/
theorem dr_is {d : Nat} (hd : d < 2 ^ 32) : ∃ d', d' < 2 ^ 32 ∧ (lN d * 25173 + 13849) &&& 4294967295 = lN d' ∧ (lN d * 25173 + 13849) - (lN d * 25173 + 13849) / 4294967296 * 4294967296 = lN d' := by
  have e : lN d * 25173 + 13849 = lN (d * 25173 + 13849) := by rw [show (25173 : Int64) = lN 25173 from rfl, lN_mul, show (13849 : Int64) = lN 13849 from rfl, lN_add]
  refine ⟨(d * 25173 + 13849) % 4294967296, by omega, ?_, ?_⟩
  · rw [e, dr_and (by omega)]
  · rw [e, show (4294967296 : Int64) = lN 4294967296 from rfl, pk_lRem (by omega) (by omega) (by omega)]
