/-! the bits of a share, the rest -/
theorem dblN_xe {E T : Nat} (h1 : 1 ≤ E) (hT : T < 4503599627370496) {j : Nat} (hj : E + j ≤ 1023) : dblN j (XE E T) = XE (E + j) T := by
  induction j with
  | zero => rfl
  | succ j ih =>
    have e : dblN (j + 1) (XE E T) = dbl (dblN j (XE E T)) := rfl
    rw [e, ih (by omega), dbl_xe (by omega) (by omega) hT]; rfl
theorem bosK_xe {T : Nat} (hT : T < 4503599627370496) : ∀ (f E : Nat), 1023 - E ≤ f → 1 ≤ E → E ≤ 1023 → bosK f (XE E T) = 1023 - E := by
  intro f
  induction f with
  | zero => intro E h1 h2 h3; show 0 = 1023 - E; omega
  | succ f ih =>
    intro E h1 h2 h3
    show (if bosG (XE E T) = true then 0 else 1 + bosK f (dbl (XE E T))) = 1023 - E
    rw [cmp1_xe h2 h3 hT]
    by_cases g : E = 1023
    · rw [decide_eq_true g, if_pos rfl]; omega
    · rw [decide_eq_false g, if_neg (by decide), dbl_xe h2 (by omega) hT, ih (E + 1) (by omega) (by omega) (by omega)]; omega
/-- the part behind the leading digit -/
theorem sub_xe {T : Nat} (h0 : T ≠ 0) (hT : T < 4503599627370496) : ∃ j, 1 ≤ j ∧ j ≤ 52 ∧ 4503599627370496 ≤ T * 2 ^ j ∧ T * 2 ^ j < 9007199254740992 ∧ FP.dsub (XE 1023 T) FP.dconst1 = XE (1023 - j) (T * 2 ^ j - 4503599627370496) := by
  obtain ⟨j, j1, j2, j3, j4, j5⟩ := rnds (s := false) (T := T) (e := -52) h0 hT (by omega) (by omega)
  refine ⟨j, j1, j2, j3, j4, ?_⟩
  show UInt64.ofNat (FP.Core.sub FP.Core.b64 (XE 1023 T).toNat (FP.dconst1 : UInt64).toNat) = _
  rw [xe_nat (by omega) hT, one_nat]
  unfold FP.Core.sub
  rw [dec_xe (E := 1023) (by omega) (by omega) hT, dec_xe (E := 1023) (T := 0) (by omega) (by omega) (by omega)]
  have hm : (((1023 : Nat) : Int) - 1075) = -52 := by omega
  rw [hm]
  have hu : FP.Core.sumUnits false (4503599627370496 + T) (-52) true (4503599627370496 + 0) (-52) (-52) = (T : Int) := by
    unfold FP.Core.sumUnits FP.Core.signed FP.Core.inUnits
    simp
    omega
  have hx : FP.Core.exactSum (.fin false (4503599627370496 + T) (-52)) (FP.Core.negate (.fin false (4503599627370496 + 0) (-52))) = .fin false T (-52) := by
    show FP.Core.Datum.fin (FP.Core.sumSign false true (FP.Core.sumUnits false (4503599627370496 + T) (-52) true (4503599627370496 + 0) (-52) (min (-52) (-52)))) (FP.Core.sumUnits false (4503599627370496 + T) (-52) true (4503599627370496 + 0) (-52) (min (-52) (-52))).natAbs (min (-52) (-52)) = _
    rw [show min (-52 : Int) (-52) = -52 from by decide, hu]
    have hs : FP.Core.sumSign false true (T : Int) = false := by
      unfold FP.Core.sumSign
      rw [if_neg (by omega)]
      exact decide_eq_false (by omega)
    rw [hs]; simp
  rw [hx]
  show UInt64.ofNat (FP.Core.encode FP.Core.b64 (FP.Core.roundRatio FP.Core.b64 false T 1 (-52))) = _
  rw [j5, enc_fin j3 (by omega)]
  unfold XE
  congr 2
  omega
theorem mul52_xe {T j : Nat} (j1 : 1 ≤ j) (j2 : j ≤ 52) (j3 : 4503599627370496 ≤ T * 2 ^ j) (j4 : T * 2 ^ j < 9007199254740992) : FP.dmul (XE (1023 - j) (T * 2 ^ j - 4503599627370496)) 4841369599423283200 = XE (1075 - j) (T * 2 ^ j - 4503599627370496) := by
  show UInt64.ofNat (FP.Core.mul FP.Core.b64 (XE (1023 - j) (T * 2 ^ j - 4503599627370496)).toNat (4841369599423283200 : UInt64).toNat) = _
  rw [xe_nat (by omega) (by omega), t52_nat]
  unfold FP.Core.mul
  rw [dec_xe (E := 1023 - j) (by omega) (by omega) (by omega), dec_xe (E := 1075) (T := 0) (by omega) (by omega) (by omega)]
  show UInt64.ofNat (FP.Core.encode FP.Core.b64 (FP.Core.roundRatio FP.Core.b64 false ((4503599627370496 + (T * 2 ^ j - 4503599627370496)) * (4503599627370496 + 0)) 1 ((((1023 - j : Nat) : Int) - 1075) + (((1075 : Nat) : Int) - 1075)))) = _
  rw [show (4503599627370496 + 0 : Nat) = 2 ^ 52 from by decide, rnd (by omega) (by omega) (by omega) (by omega), enc_fin (by omega) (by omega)]
  unfold XE enc
  refine congrArg UInt64.ofNat ?_
  omega
theorem d2l_xe {T j : Nat} (j1 : 1 ≤ j) (j2 : j ≤ 52) (hT : T < 4503599627370496) (j3 : 4503599627370496 ≤ T * 2 ^ j) (j4 : T * 2 ^ j < 9007199254740992) : FP.d2l (XE (1075 - j) (T * 2 ^ j - 4503599627370496)) = Int64.ofInt (T : Int) := by
  show FP.Core.toL (FP.Core.decode FP.Core.b64 (XE (1075 - j) (T * 2 ^ j - 4503599627370496)).toNat) = _
  rw [xe_nat (by omega) (by omega), dec_xe (E := 1075 - j) (by omega) (by omega) (by omega)]
  unfold FP.Core.toL FP.Core.toInt
  have ht : FP.Core.truncate false (4503599627370496 + (T * 2 ^ j - 4503599627370496)) (((1075 - j : Nat) : Int) - 1075) = (T : Int) := by
    unfold FP.Core.truncate FP.Core.signed
    have e1 : ((((1075 - j : Nat) : Int) - 1075)).toNat = 0 := by omega
    have e2 : (-(((1075 - j : Nat) : Int) - 1075)).toNat = j := by omega
    rw [e1, e2, Nat.pow_zero, Nat.mul_one, show 4503599627370496 + (T * 2 ^ j - 4503599627370496) = T * 2 ^ j by omega, Nat.mul_div_cancel _ (Nat.two_pow_pos j)]
    rfl
  show Int64.ofInt (max (-2 ^ 63) (min (2 ^ 63 - 1) (FP.Core.truncate false (4503599627370496 + (T * 2 ^ j - 4503599627370496)) (((1075 - j : Nat) : Int) - 1075)))) = _
  rw [ht]
  congr 1
  omega
theorem one_m : FP.dsub (XE 1023 0) FP.dconst1 = 0 := by decide +kernel
theorem zero_m : FP.dmul (0 : UInt64) 4841369599423283200 = 0 := by decide +kernel
theorem zero_l : FP.d2l (0 : UInt64) = 0 := by decide +kernel
/-- the fraction's digits -/
theorem mant_xe {T : Nat} (hT : T < 4503599627370496) : vf_n64 (FP.dsub (XE 1023 T) FP.dconst1) ∧ vf_n64 (FP.dmul (FP.dsub (XE 1023 T) FP.dconst1) 4841369599423283200) ∧ FP.d2l (FP.dmul (FP.dsub (XE 1023 T) FP.dconst1) 4841369599423283200) = Int64.ofInt (T : Int) := by
  by_cases h0 : T = 0
  · subst h0
    rw [one_m, zero_m, zero_l]
    exact ⟨n64_lt (n := 0) (by omega), n64_lt (n := 0) (by omega), by decide⟩
  · obtain ⟨j, j1, j2, j3, j4, j5⟩ := sub_xe h0 hT
    rw [j5, mul52_xe j1 j2 j3 j4, d2l_xe j1 j2 hT j3 j4]
    exact ⟨n64_xe (by omega) (by omega), n64_xe (by omega) (by omega), rfl⟩
theorem bosM_xe {E T : Nat} (h1 : 1016 ≤ E) (hE : E ≤ 1023) (hT : T < 4503599627370496) : bosM (XE E T) = FP.dsub (XE 1023 T) FP.dconst1 := by
  unfold bosM
  rw [bosK_xe hT 8 E (by omega) (by omega) hE, dblN_xe (by omega) hT (by omega), show E + (1023 - E) = 1023 by omega]
theorem bosP_xe {E T : Nat} (h1 : 1016 ≤ E) (hE : E ≤ 1023) (hT : T < 4503599627370496) : bosP (XE E T) := by
  intro _
  have hk := bosK_xe hT 8 E (by omega) (by omega) hE
  obtain ⟨m1, m2, -⟩ := mant_xe hT
  refine ⟨fun j hj => ?_, ?_, ?_, ?_⟩
  · rw [hk] at hj
    rw [dblN_xe (by omega) hT (by omega)]
    refine ⟨by rw [cmp1_xe (by omega) (by omega) hT]; exact decide_eq_false (by omega), ?_⟩
    have e := dbl_xe (E := E + j) (T := T) (by omega) (by omega) hT
    unfold dbl at e
    rw [e]; exact n64_xe (by omega) hT
  · rw [hk, dblN_xe (by omega) hT (by omega), cmp1_xe (by omega) (by omega) hT]; exact decide_eq_true (by omega)
  · rw [bosM_xe h1 hE hT]; exact m1
  · rw [bosM_xe h1 hE hT]; exact m2
theorem shl_xe : ∀ k, k < 8 → ((1023 - Int64.ofNat k) * 4503599627370496) = Int64.ofNat ((1023 - k) * 4503599627370496) := by decide +kernel
theorem bosI_xe {E T : Nat} (h1 : 1016 ≤ E) (hE : E ≤ 1023) (hT : T < 4503599627370496) : bosI (XE E T) = d2lb (XE E T) := by
  unfold bosI d2lb
  rw [if_pos (cmp0_xe (by omega) (by omega) hT), nan_xe (by omega) (by omega) hT, if_neg (by decide), bosM_xe h1 hE hT, (mant_xe hT).2.2, bosK_xe hT 8 E (by omega) (by omega) hE, shl_xe (1023 - E) (by omega), show 1023 - (1023 - E) = E by omega]
  refine Int64.toBitVec_inj.mp ?_
  rw [Int64.toBitVec_add]
  show BitVec.ofNat 64 (E * 4503599627370496) + BitVec.ofInt 64 (T : Int) = BitVec.ofNat 64 (enc E T)
  rw [BitVec.ofInt_natCast, ← BitVec.ofNat_add]; rfl
def shr (a b : Nat) : UInt64 := FP.ddiv (FP.i2d (nI a)) (FP.i2d (nI b))
theorem shr_0 : ∀ b, b < 121 → 0 < b → shr 0 b = 0 := by decide +kernel
theorem shr_r : ∀ b, b < 121 → ∀ a, a < 121 → (0 < a ∧ a ≤ b → 4575657221408423936 ≤ (shr a b).toNat ∧ (shr a b).toNat < 4611686018427387904) := by decide +kernel
theorem shr_xe {a b : Nat} (ha : 0 < a) (hab : a ≤ b) (hb : b < 121) : ∃ E T, 1016 ≤ E ∧ E ≤ 1023 ∧ T < 4503599627370496 ∧ shr a b = XE E T := by
  obtain ⟨h1, h2⟩ := shr_r b hb a (by omega) ⟨ha, hab⟩
  refine ⟨(shr a b).toNat / 4503599627370496, (shr a b).toNat % 4503599627370496, by omega, by omega, Nat.mod_lt _ (by omega), ?_⟩
  unfold XE enc
  rw [Nat.div_add_mod', UInt64.ofNat_toNat]
theorem bosP_0 : bosP 0 := by
  intro h
  exact absurd h (by decide +kernel)
theorem bosI_0 : bosI 0 = d2lb 0 := by decide +kernel
theorem one_xe : (FP.dconst1 : UInt64) = XE 1023 0 := by decide +kernel
theorem see_take {z : ZZ} : seeing z true ≤ takenAll z := by
  unfold seeing takenAll
  refine sumN_le (fun r _ => ?_)
  unfold seeIn takenIn
  refine sumN_le (fun w _ => ?_)
  cases tk z r w <;> cases seesB z r w <;> decide
theorem bos_both {z : ZZ} (hA : VAL z) : bosP (shareD z) ∧ bosI (shareD z) = d2lb (shareD z) := by
  have hb := takenAll_b hA.1
  have hs := see_take (z := z)
  unfold shareD
  by_cases g : takenAll z = 0
  · rw [if_pos g, one_xe]
    exact ⟨bosP_xe (by omega) (by omega) (by omega), bosI_xe (by omega) (by omega) (by omega)⟩
  · rw [if_neg g]
    show bosP (shr (seeing z true) (takenAll z)) ∧ bosI (shr (seeing z true) (takenAll z)) = d2lb (shr (seeing z true) (takenAll z))
    by_cases g0 : seeing z true = 0
    · rw [g0, shr_0 _ (by omega) (by omega)]
      exact ⟨bosP_0, bosI_0⟩
    · obtain ⟨E, T, e1, e2, e3, e4⟩ := shr_xe (a := seeing z true) (b := takenAll z) (by omega) hs (by omega)
      rw [e4]
      exact ⟨bosP_xe e1 e2 e3, bosI_xe e1 e2 e3⟩
theorem bos_P {z : ZZ} (hA : VAL z) : bosP (shareD z) := (bos_both hA).1
theorem bos_I {z : ZZ} (hA : VAL z) : bosI (shareD z) = d2lb (shareD z) := (bos_both hA).2
