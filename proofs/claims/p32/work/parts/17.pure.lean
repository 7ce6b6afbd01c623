/-! pure facts; the rows bt .. b_sshr are pasted from kit/laws/BITS.to-paste -/
def bt (x : Int32) (i : Nat) : Bool := x.toBitVec.getLsbD i
theorem b_ext {x y : Int32} (h : ∀ i, i < 32 → bt x i = bt y i) : x = y := Int32.toBitVec_inj.mp (BitVec.eq_of_getLsbD_eq (fun i hi => h i hi))
theorem b_or (x y : Int32) (i : Nat) : bt (x ||| y) i = (bt x i || bt y i) := by unfold bt; rw [Int32.toBitVec_or, BitVec.getLsbD_or]
theorem b_and (x y : Int32) (i : Nat) : bt (x &&& y) i = (bt x i && bt y i) := by unfold bt; rw [Int32.toBitVec_and, BitVec.getLsbD_and]
theorem b_xor (x y : Int32) (i : Nat) : bt (x ^^^ y) i = (bt x i ^^ bt y i) := by unfold bt; rw [Int32.toBitVec_xor, BitVec.getLsbD_xor]
theorem b_big {x : Int32} {i : Nat} (h : 32 ≤ i) : bt x i = false := BitVec.getLsbD_of_ge _ _ h
theorem b_m1 : ∀ i, i < 32 → bt (-1) i = true := by decide +kernel
theorem b_0 (i : Nat) : bt 0 i = false := BitVec.getLsbD_zero
theorem s_l : ∀ n, n < 32 → ((nI n &&& 31).toBitVec.smod 32).toNat = n := by decide +kernel
theorem s_u : ∀ n, n < 32 → (((nI n).toUInt32 &&& Int32.toUInt32 31).toBitVec % 32).toNat = n := by decide +kernel
theorem b_shl (n : Nat) (hn : n < 32) (x : Int32) {i : Nat} (hi : i < 32) : bt (x <<< (nI n &&& 31)) i = (decide (n ≤ i) && bt x (i - n)) := by
  unfold bt
  rw [Int32.toBitVec_shiftLeft]
  show (x.toBitVec <<< ((nI n &&& 31).toBitVec.smod 32).toNat).getLsbD i = _
  rw [s_l n hn, BitVec.getLsbD_shiftLeft]
  rcases Nat.lt_or_ge i n with h | h
  · simp [h, Nat.not_le.mpr h]
  · simp [hi, h, Nat.not_lt.mpr h]
theorem b_ushr (n : Nat) (hn : n < 32) (x : Int32) (i : Nat) : bt ((x.toUInt32 >>> ((nI n).toUInt32 &&& Int32.toUInt32 31)).toInt32) i = bt x (n + i) := by
  show (x.toUInt32 >>> ((nI n).toUInt32 &&& Int32.toUInt32 31)).toBitVec.getLsbD i = x.toUInt32.toBitVec.getLsbD (n + i)
  rw [UInt32.toBitVec_shiftRight]
  show (x.toUInt32.toBitVec >>> (((nI n).toUInt32 &&& Int32.toUInt32 31).toBitVec % 32).toNat).getLsbD i = _
  rw [s_u n hn, BitVec.getLsbD_ushiftRight]
theorem b_sshr (n : Nat) (hn : n < 32) (x : Int32) {i : Nat} (hi : i < 32) : bt (x >>> (nI n &&& 31)) i = if n + i < 32 then bt x (n + i) else bt x 31 := by
  unfold bt
  rw [Int32.toBitVec_shiftRight]
  show (x.toBitVec.sshiftRight ((nI n &&& 31).toBitVec.smod 32).toNat).getLsbD i = _
  rw [s_l n hn, BitVec.getLsbD_sshiftRight, BitVec.msb_eq_getLsbD_last]
  simp [hi]
theorem b_one : ∀ i, i < 32 → bt (nI 1) i = decide (i = 0) := by decide +kernel
theorem tk_bt (x : Int32) {s : Nat} (hs : s < 31) : decide ((x >>> (nI s &&& 31)) &&& nI 1 = nI 1) = bt x s := by
  cases hb : bt x s with
  | true =>
    refine decide_eq_true (b_ext fun i hi => ?_)
    rw [b_and, b_sshr s (by omega) x hi, b_one i hi]
    by_cases h0 : i = 0
    · subst h0; rw [Nat.add_zero, if_pos (by omega), hb]; rfl
    · rw [decide_eq_false h0, Bool.and_false]
  | false =>
    refine decide_eq_false fun h => ?_
    have h1 : bt ((x >>> (nI s &&& 31)) &&& nI 1) 0 = bt (nI 1) 0 := by rw [h]
    rw [b_and, b_sshr s (by omega) x (by decide), b_one 0 (by decide), Nat.add_zero, if_pos (by omega), hb] at h1
    exact absurd h1 (by decide)
theorem low_bt : ∀ m, m < 13 → ∀ i, i < 32 → bt ((nI 1 <<< (nI m &&& 31)) - nI 1) i = decide (i < m) := by decide +kernel
theorem bitsI_bt {f m : Nat} (hm : m ≤ 12) (hf : f ≤ 12) {i : Nat} (hi : i < 32) : bt (bitsI f m) i = decide (f ≤ i ∧ i < f + m) := by
  unfold bitsI
  rw [b_shl f (by omega) _ hi]
  by_cases h : f ≤ i
  · rw [decide_eq_true h, Bool.true_and, low_bt m (by omega) (i - f) (by omega)]
    congr 1; apply propext; constructor
    · intro q; omega
    · intro q; omega
  · rw [decide_eq_false h, Bool.false_and]
    exact (decide_eq_false (by omega)).symm
theorem one_shl_bt {f : Nat} (hf : f < 31) {i : Nat} (hi : i < 32) : bt (nI 1 <<< (nI f &&& 31)) i = decide (i = f) := by
  rw [b_shl f (by omega) _ hi, b_one (i - f) (by omega)]
  by_cases h : f ≤ i
  · rw [decide_eq_true h, Bool.true_and]; congr 1; apply propext; omega
  · rw [decide_eq_false h, Bool.false_and]; exact (decide_eq_false (by omega)).symm
theorem bitsI_1 (f : Nat) : bitsI f 1 = nI 1 <<< (nI f &&& 31) := by
  unfold bitsI
  rw [show (nI 1 <<< (nI 1 &&& 31)) - nI 1 = nI 1 from by decide +kernel]
theorem vac_leave (z : ZZ) (r s : Nat) : vacZ z r s = leaveZ z r s := by unfold vacZ leaveZ; rw [bitsI_1]
theorem occ_take (z : ZZ) (r s : Nat) : occZ z r s 1 = takeZ z r s := by unfold occZ takeZ; rw [bitsI_1]
theorem bits_s {f m : Nat} (h : f + m < 12) (x : Int32) : (x ||| bitsI f m) ||| (nI 1 <<< (nI (f + m) &&& 31)) = x ||| bitsI f (m + 1) := by
  refine b_ext fun i hi => ?_
  rw [b_or, b_or, b_or, bitsI_bt (by omega) (by omega) hi, bitsI_bt (by omega) (by omega) hi, one_shl_bt (by omega) hi, Bool.or_assoc]
  congr 1
  by_cases h1 : f ≤ i ∧ i < f + m
  · rw [decide_eq_true h1, Bool.true_or, decide_eq_true (by omega)]
  · rw [decide_eq_false h1, Bool.false_or]; congr 1; apply propext; omega
theorem bits_0 {f : Nat} (hf : f < 32) (x : Int32) : x ||| bitsI f 0 = x := by
  have h : bitsI f 0 = 0 := by
    unfold bitsI
    rw [show (nI 1 <<< (nI 0 &&& 31)) - nI 1 = 0 from by decide +kernel]
    refine b_ext fun i hi => ?_
    rw [b_shl f hf _ hi, b_0, b_0, Bool.and_false]
  rw [h, Int32.or_zero]
theorem upd_upd (z : ZZ) (i : Nat) (v w : Int32) : upd (upd z i v) i w = upd z i w := by
  funext j; unfold upd; by_cases h : j = i <;> simp [h]
theorem upd_same (z : ZZ) (i : Nat) : upd z i (z i) = z := by
  funext j; unfold upd; by_cases h : j = i <;> simp [h]
theorem party_occ (z : ZZ) (r f : Nat) {m : Nat} (h : f + m ≤ 12) : partyZ z r f m = occZ z r f m := by
  induction m with
  | zero => unfold occZ; rw [bits_0 (by omega), upd_same]; rfl
  | succ m ih =>
    show takeZ (partyZ z r f m) r (f + m) = _
    rw [ih (by omega)]
    unfold takeZ occZ
    rw [upd_eq, upd_upd, bits_s (by omega)]
theorem freeB_all (z : ZZ) (r f : Nat) {m : Nat} (h : f + m ≤ 12) : freeB z r f m = allN m (fun j => !tk z r (f + j)) := by
  unfold freeB
  have K : (z (5 + 4 * r + 3) &&& bitsI f m = 0) ↔ ∀ j, j < m → bt (z (5 + 4 * r + 3)) (f + j) = false := by
    constructor
    · intro q j hj
      have h1 : bt (z (5 + 4 * r + 3) &&& bitsI f m) (f + j) = bt 0 (f + j) := by rw [q]
      rw [b_and, bitsI_bt (by omega) (by omega) (by omega), decide_eq_true (by omega), Bool.and_true, b_0] at h1
      exact h1
    · intro q
      refine b_ext fun i hi => ?_
      rw [b_and, bitsI_bt (by omega) (by omega) hi, b_0]
      by_cases h1 : f ≤ i ∧ i < f + m
      · have := q (i - f) (by omega)
        rw [show f + (i - f) = i by omega] at this
        rw [this]; rfl
      · rw [decide_eq_false h1, Bool.and_false]
  by_cases g : z (5 + 4 * r + 3) &&& bitsI f m = 0
  · rw [decide_eq_true g]
    refine (allN_t fun j hj => ?_).symm
    show (!tk z r (f + j)) = true
    rw [show tk z r (f + j) = bt (z (5 + 4 * r + 3)) (f + j) from tk_bt _ (by omega), K.mp g j hj]; rfl
  · rw [decide_eq_false g]
    symm
    by_cases g2 : ∀ j, j < m → bt (z (5 + 4 * r + 3)) (f + j) = false
    · exact absurd (K.mpr g2) g
    · have : ∃ j, j < m ∧ bt (z (5 + 4 * r + 3)) (f + j) = true := by
        refine Classical.byContradiction fun q => g2 fun j hj => ?_
        cases hb : bt (z (5 + 4 * r + 3)) (f + j) with
        | false => rfl
        | true => exact absurd ⟨j, hj, hb⟩ q
      obtain ⟨j, hj, hb⟩ := this
      refine allN_f hj ?_
      show (!tk z r (f + j)) = false
      rw [show tk z r (f + j) = bt (z (5 + 4 * r + 3)) (f + j) from tk_bt _ (by omega), hb]; rfl
/-- the count of bits, as Integer.bitCount makes it -/
def ush (x : Int32) (k : Int32) : Int32 := (x.toUInt32 >>> (k.toUInt32 &&& Int32.toUInt32 31)).toInt32
def bc1 (x : Int32) : Int32 := x - (ush x (nI 1) &&& 1431655765)
def bc2 (x : Int32) : Int32 := (bc1 x &&& 858993459) + (ush (bc1 x) (nI 2) &&& 858993459)
def bc3 (x : Int32) : Int32 := (bc2 x + ush (bc2 x) (nI 4)) &&& 252645135
def bc4 (x : Int32) : Int32 := bc3 x + ush (bc3 x) (nI 8)
def bc5 (x : Int32) : Int32 := bc4 x + ush (bc4 x) (nI 16)
def bcI (x : Int32) : Int32 := bc5 x &&& nI 63
theorem bc_cnt0 : ∀ S, S < 13 → ∀ a, a < 64 → ∀ c, c < 64 → 64 * a + c < 2 ^ S → bcI (nI (64 * a + c)) = nI (sumN S fun w => b2 (decide ((nI (64 * a + c) >>> (nI w &&& 31)) &&& nI 1 = nI 1))) := by decide +kernel
theorem bc_cnt (S : Nat) (hS : S < 13) (t : Nat) (ht : t < 2 ^ S) : bcI (nI t) = nI (sumN S fun w => b2 (decide ((nI t >>> (nI w &&& 31)) &&& nI 1 = nI 1))) := by
  have h1 : 2 ^ S ≤ 2 ^ 12 := Nat.pow_le_pow_right (by decide) (by omega)
  have h2 : t < 4096 := Nat.lt_of_lt_of_le ht h1
  have h := bc_cnt0 S hS (t / 64) (by omega) (t % 64) (Nat.mod_lt _ (by decide)) (by omega)
  rw [show 64 * (t / 64) + t % 64 = t by omega] at h
  exact h
def VT (z : ZZ) : Prop := ∀ r, r < nR z → ∃ t, t < 2 ^ nS z r ∧ z (5 + 4 * r + 3) = nI t
theorem tk_cnt {z : ZZ} (hw : WF z) (hv : VT z) {r : Nat} (hr : r < nR z) : bcI (z (5 + 4 * r + 3)) = nI (takenIn z r) := by
  obtain ⟨t, ht, e⟩ := hv r hr
  have h12 := wf_S12 hw hr
  rw [e, bc_cnt (nS z r) (by omega) t ht]
  unfold takenIn tk
  rw [e]
