/-! the bits of a share: what the class makes of a normal number from 2^-8 to 1 is its encoding -/
theorem p52 : (2 : Nat) ^ 52 = 4503599627370496 := by decide
theorem p53 : (2 : Nat) ^ 53 = 9007199254740992 := by decide
def enc (E T : Nat) : Nat := E * 4503599627370496 + T
def XE (E T : Nat) : UInt64 := UInt64.ofNat (enc E T)
theorem xe_nat {E T : Nat} (hE : E < 2047) (hT : T < 4503599627370496) : (XE E T).toNat = enc E T := by
  unfold XE enc
  exact UInt64.toNat_ofNat_of_lt' (by show _ < 18446744073709551616; omega)
theorem tails64 : FP.Core.b64.tails = 4503599627370496 := by decide
theorem exps64 : FP.Core.b64.exps = 2048 := by decide
theorem qmin64 : FP.Core.b64.qmin = -1074 := by decide
theorem qmax64 : FP.Core.b64.qmax = 971 := by decide
theorem dec_xe {E T : Nat} (h1 : 1 ≤ E) (hE : E < 2047) (hT : T < 4503599627370496) : FP.Core.decode FP.Core.b64 (enc E T) = .fin false (4503599627370496 + T) ((E : Int) - 1075) := by
  have fT : FP.Core.fieldT FP.Core.b64 (enc E T) = T := by
    unfold FP.Core.fieldT enc; rw [tails64]; omega
  have fE : FP.Core.fieldE FP.Core.b64 (enc E T) = E := by
    unfold FP.Core.fieldE enc; rw [tails64, exps64]; omega
  have fS : FP.Core.fieldS FP.Core.b64 (enc E T) = false := by
    unfold FP.Core.fieldS enc; rw [tails64, exps64]
    rw [show (E * 4503599627370496 + T) / 4503599627370496 / 2048 % 2 = 0 by omega]; rfl
  unfold FP.Core.decode
  rw [fE, fT, fS, exps64, tails64, qmin64, if_neg (by omega), if_neg (by omega)]
  congr 1
  omega
theorem enc_fin {c : Nat} {q : Int} (h1 : 4503599627370496 ≤ c) (hq : -1074 ≤ q) : FP.Core.encode FP.Core.b64 (.fin false c q) = enc ((q + 1075).toNat) (c - 4503599627370496) := by
  unfold FP.Core.encode FP.Core.assemble enc
  simp only [tails64, exps64, qmin64]
  rw [if_neg (by omega)]
  have e : (q - (-1074)).toNat + 1 = (q + 1075).toNat := by omega
  rw [e]
  simp
/-- a number of 53 digits, shifted: nothing is rounded -/
theorem rnd {s : Bool} {c k : Nat} {e : Int} (h1 : 4503599627370496 ≤ c) (h2 : c < 9007199254740992) (hlo : -1074 ≤ e + k) (hhi : e + k ≤ 971) : FP.Core.roundRatio FP.Core.b64 s (c * 2 ^ k) 1 e = .fin s c (e + k) := by
  have hp : 0 < 2 ^ k := Nat.two_pow_pos k
  have hne : c * 2 ^ k ≠ 0 := Nat.ne_of_gt (Nat.mul_pos (by omega) hp)
  have hlog : (c * 2 ^ k).log2 = 52 + k := by
    rw [Nat.log2_eq_iff hne]
    constructor
    · rw [Nat.pow_add, p52]; exact Nat.mul_le_mul_right _ h1
    · rw [show 52 + k + 1 = 53 + k by omega, Nat.pow_add, p53]; exact (Nat.mul_lt_mul_right hp).mpr h2
  have hlead : FP.Core.leading (c * 2 ^ k) 1 = 52 + k := by
    unfold FP.Core.leading
    have h0 : (1 : Nat).log2 = 0 := by decide
    simp only [hlog, h0]
    rw [if_pos]
    · omega
    · have e1 : ((((52 + k : Nat) : Int)) - ((0 : Nat) : Int)).toNat = 52 + k := by omega
      have e2 : (-((((52 + k : Nat) : Int)) - ((0 : Nat) : Int))).toNat = 0 := by omega
      rw [e1, e2, Nat.one_mul, Nat.pow_zero, Nat.mul_one, Nat.pow_add, p52]
      exact Nat.mul_le_mul_right _ h1
  have hq : FP.Core.quantum FP.Core.b64 (c * 2 ^ k) 1 e = e + k := by
    unfold FP.Core.quantum
    rw [hlead, qmin64]
    show max (-1074 : Int) (52 + (k : Int) + e - ((53 : Nat) - 1)) = e + k
    omega
  unfold FP.Core.roundRatio
  rw [if_neg hne, hq]
  unfold FP.Core.roundAt FP.Core.unitsNum FP.Core.unitsDen
  have e3 : (e - (e + (k : Int))).toNat = 0 := by omega
  have e4 : (e + (k : Int) - e).toNat = k := by omega
  rw [e3, e4, Nat.pow_zero, Nat.mul_one, Nat.one_mul]
  have hn : FP.Core.nearest (c * 2 ^ k) (2 ^ k) = c := by
    unfold FP.Core.nearest
    rw [Nat.mul_mod_left, if_pos (by omega), Nat.mul_div_cancel _ hp]
  rw [hn]
  unfold FP.Core.settle FP.Core.bound
  rw [if_pos (by show c < 2 ^ 53; rw [p53]; exact h2), qmax64, if_pos hhi]
/-- a small whole number in units of 2^e -/
theorem rnds {s : Bool} {T : Nat} {e : Int} (h0 : T ≠ 0) (h2 : T < 4503599627370496) (hlo : -1074 ≤ e - 52) (hhi : e ≤ 971) : ∃ j : Nat, 1 ≤ j ∧ j ≤ 52 ∧ 4503599627370496 ≤ T * 2 ^ j ∧ T * 2 ^ j < 9007199254740992 ∧ FP.Core.roundRatio FP.Core.b64 s T 1 e = .fin s (T * 2 ^ j) (e - j) := by
  have hl1 : T.log2 < 52 := by rw [Nat.log2_lt h0, p52]; exact h2
  obtain ⟨j, hj⟩ : ∃ j, j = 52 - T.log2 := ⟨_, rfl⟩
  have hb1 := Nat.log2_self_le h0
  have hb2 : T < 2 ^ (T.log2 + 1) := Nat.lt_log2_self
  have hp : 0 < 2 ^ j := Nat.two_pow_pos j
  have hlo2 : 4503599627370496 ≤ T * 2 ^ j := by
    rw [← p52, show 52 = T.log2 + j by omega, Nat.pow_add]; exact Nat.mul_le_mul_right _ hb1
  have hhi2 : T * 2 ^ j < 9007199254740992 := by
    rw [← p53, show 53 = (T.log2 + 1) + j by omega, Nat.pow_add]; exact (Nat.mul_lt_mul_right hp).mpr hb2
  refine ⟨j, by omega, by omega, hlo2, hhi2, ?_⟩
  have hlead : FP.Core.leading T 1 = T.log2 := by
    unfold FP.Core.leading
    have h9 : (1 : Nat).log2 = 0 := by decide
    simp only [h9]
    rw [if_pos]
    · omega
    · have e1 : ((T.log2 : Int) - ((0 : Nat) : Int)).toNat = T.log2 := by omega
      have e2 : (-((T.log2 : Int) - ((0 : Nat) : Int))).toNat = 0 := by omega
      rw [e1, e2, Nat.one_mul, Nat.pow_zero, Nat.mul_one]
      exact hb1
  have hq : FP.Core.quantum FP.Core.b64 T 1 e = e - j := by
    unfold FP.Core.quantum
    rw [hlead, qmin64]
    show max (-1074 : Int) ((T.log2 : Int) + e - ((53 : Nat) - 1)) = e - j
    omega
  unfold FP.Core.roundRatio
  rw [if_neg h0, hq]
  unfold FP.Core.roundAt FP.Core.unitsNum FP.Core.unitsDen
  have e3 : (e - (e - (j : Int))).toNat = j := by omega
  have e4 : (e - (j : Int) - e).toNat = 0 := by omega
  rw [e3, e4, Nat.pow_zero, Nat.mul_one]
  have hn : FP.Core.nearest (T * 2 ^ j) 1 = T * 2 ^ j := by
    unfold FP.Core.nearest
    rw [Nat.mod_one, if_pos (by omega), Nat.div_one]
  rw [hn]
  unfold FP.Core.settle FP.Core.bound
  rw [if_pos (by show T * 2 ^ j < 2 ^ 53; rw [p53]; exact hhi2), qmax64, if_pos (by omega)]
theorem two_nat : (4611686018427387904 : UInt64).toNat = enc 1024 0 := by decide
theorem t52_nat : (4841369599423283200 : UInt64).toNat = enc 1075 0 := by decide
theorem one_nat : (FP.dconst1 : UInt64).toNat = enc 1023 0 := by decide
/-- twice the number: one exponent more -/
theorem dbl_xe {E T : Nat} (h1 : 1 ≤ E) (hE : E < 2046) (hT : T < 4503599627370496) : dbl (XE E T) = XE (E + 1) T := by
  show UInt64.ofNat (FP.Core.mul FP.Core.b64 (XE E T).toNat (4611686018427387904 : UInt64).toNat) = _
  rw [xe_nat (by omega) hT, two_nat]
  unfold FP.Core.mul
  rw [dec_xe h1 (by omega) hT, dec_xe (E := 1024) (T := 0) (by omega) (by omega) (by omega)]
  show UInt64.ofNat (FP.Core.encode FP.Core.b64 (FP.Core.roundRatio FP.Core.b64 false ((4503599627370496 + T) * (4503599627370496 + 0)) 1 (((E : Int) - 1075) + (((1024 : Nat) : Int) - 1075)))) = _
  rw [show (4503599627370496 + 0 : Nat) = 2 ^ 52 from by decide, rnd (by omega) (by omega) (by omega) (by omega), enc_fin (by omega) (by omega)]
  unfold XE enc
  refine congrArg UInt64.ofNat ?_
  omega
theorem cmp1_xe {E T : Nat} (h1 : 1 ≤ E) (hE : E ≤ 1023) (hT : T < 4503599627370496) : bosG (XE E T) = decide (E = 1023) := by
  have e : FP.dcmp (XE E T) FP.dconst1 = FP.Core.order (.fin false (4503599627370496 + T) ((E : Int) - 1075)) (.fin false (4503599627370496 + 0) (((1023 : Nat) : Int) - 1075)) := by
    show FP.Core.order (FP.Core.decode FP.Core.b64 (XE E T).toNat) (FP.Core.decode FP.Core.b64 (FP.dconst1 : UInt64).toNat) = _
    rw [xe_nat (by omega) hT, one_nat, dec_xe h1 (by omega) hT, dec_xe (E := 1023) (T := 0) (by omega) (by omega) (by omega)]
  unfold bosG
  rw [e]
  have hm : min ((E : Int) - 1075) (((1023 : Nat) : Int) - 1075) = (E : Int) - 1075 := by omega
  have hs : FP.Core.order (.fin false (4503599627370496 + T) ((E : Int) - 1075)) (.fin false (4503599627370496 + 0) (((1023 : Nat) : Int) - 1075)) = some (compare (((4503599627370496 + T : Nat)) : Int) ((4503599627370496 * 2 ^ (1023 - E) : Nat) : Int)) := by
    unfold FP.Core.order FP.Core.signed FP.Core.inUnits
    simp only [hm]
    have e1 : ((E : Int) - 1075 - ((E : Int) - 1075)).toNat = 0 := by omega
    have e2 : ((((1023 : Nat) : Int) - 1075) - ((E : Int) - 1075)).toNat = 1023 - E := by omega
    rw [e1, e2, Nat.pow_zero, Nat.mul_one, Nat.add_zero]
    rfl
  rw [hs]
  by_cases g : E = 1023
  · subst g
    rw [show 1023 - 1023 = 0 from rfl, Nat.pow_zero, Nat.mul_one, decide_eq_true rfl]
    by_cases g0 : T = 0
    · subst g0
      have hc : compare (((4503599627370496 + 0 : Nat)) : Int) ((4503599627370496 : Nat) : Int) = .eq := by decide
      rw [hc]; rfl
    · have hc : compare (((4503599627370496 + T : Nat)) : Int) ((4503599627370496 : Nat) : Int) = .gt := by
        rw [Int.compare_eq_gt]; omega
      rw [hc]; rfl
  · rw [decide_eq_false g]
    have hp : 2 ≤ 2 ^ (1023 - E) := by
      have := Nat.pow_le_pow_right (n := 2) (by omega) (show 1 ≤ 1023 - E by omega)
      omega
    have hlt : 4503599627370496 + T < 4503599627370496 * 2 ^ (1023 - E) := by
      have := Nat.mul_le_mul_left 4503599627370496 hp
      omega
    have hc : compare (((4503599627370496 + T : Nat)) : Int) ((4503599627370496 * 2 ^ (1023 - E) : Nat) : Int) = .lt := by
      rw [Int.compare_eq_lt]; exact Int.ofNat_lt.mpr hlt
    rw [hc]; rfl
theorem cmp0_xe {E T : Nat} (h1 : 1 ≤ E) (hE : E < 2047) (hT : T < 4503599627370496) : (0 : Int32) < Op.cmpValue (FP.dcmp (XE E T) FP.dconst0) CmpOp.g := by
  have e : FP.dcmp (XE E T) FP.dconst0 = some (compare (((4503599627370496 + T) * 2 ^ (((E : Int) - 1075) - min ((E : Int) - 1075) (-1074)).toNat : Nat) : Int) ((0 : Nat) : Int)) := by
    have hz : FP.Core.decode FP.Core.b64 (FP.dconst0 : UInt64).toNat = .fin false 0 (-1074) := by decide
    show FP.Core.order (FP.Core.decode FP.Core.b64 (XE E T).toNat) (FP.Core.decode FP.Core.b64 (FP.dconst0 : UInt64).toNat) = _
    rw [xe_nat (by omega) hT, hz, dec_xe h1 (by omega) hT]
    unfold FP.Core.order FP.Core.signed FP.Core.inUnits
    simp only [Nat.zero_mul]
    rfl
  rw [e]
  have hpos : 0 < (4503599627370496 + T) * 2 ^ (((E : Int) - 1075) - min ((E : Int) - 1075) (-1074)).toNat := Nat.mul_pos (by omega) (Nat.two_pow_pos _)
  have hc : compare (((4503599627370496 + T) * 2 ^ (((E : Int) - 1075) - min ((E : Int) - 1075) (-1074)).toNat : Nat) : Int) ((0 : Nat) : Int) = .gt := by
    rw [Int.compare_eq_gt]; exact Int.ofNat_lt.mpr hpos
  rw [hc]; decide
theorem nan_xe {E T : Nat} (h1 : 1 ≤ E) (hE : E < 2047) (hT : T < 4503599627370496) : isNaNB (XE E T) = false := by
  have e : FP.dcmp (XE E T) (XE E T) = some .eq := by
    show FP.Core.order (FP.Core.decode FP.Core.b64 (XE E T).toNat) (FP.Core.decode FP.Core.b64 (XE E T).toNat) = _
    rw [xe_nat (by omega) hT, dec_xe h1 (by omega) hT]
    unfold FP.Core.order
    simp
  unfold isNaNB
  rw [e]; rfl
theorem n64_lt {n : Nat} (h : n < 9218868437227405312) : vf_n64 (UInt64.ofNat n) := by
  unfold vf_n64
  rw [UInt64.le_iff_toNat_le, UInt64.toNat_and, UInt64.toNat_ofNat_of_lt' (by show _ < 18446744073709551616; omega)]
  show n &&& 9223372036854775807 ≤ 9218868437227405312
  exact Nat.le_trans Nat.and_le_left (by omega)
theorem n64_xe {E T : Nat} (hE : E < 2047) (hT : T < 4503599627370496) : vf_n64 (XE E T) := n64_lt (by unfold enc; omega)
