/-- more of what the reference asks of a hall -/
def allN : Nat → (Nat → Bool) → Bool
  | 0, _ => true
  | n + 1, f => allN n f && f n
theorem allN_s (n : Nat) (f : Nat → Bool) : allN (n + 1) f = (allN n f && f n) := rfl
theorem allN_f {n : Nat} {f : Nat → Bool} {k : Nat} (hk : k < n) (h : f k = false) : allN n f = false := by
  induction n with
  | zero => omega
  | succ n ih =>
    rw [allN_s]
    rcases Nat.lt_or_ge k n with q | q
    · rw [ih q]; rfl
    · rw [show n = k by omega, h]; exact Bool.and_false _
theorem allN_t {n : Nat} {f : Nat → Bool} (h : ∀ k, k < n → f k = true) : allN n f = true := by
  induction n with
  | zero => rfl
  | succ n ih => rw [allN_s, ih (fun k hk => h k (by omega)), h n (by omega)]; rfl
theorem allN_at {n : Nat} {f : Nat → Bool} (h : allN n f = true) {k : Nat} (hk : k < n) : f k = true := by
  cases hf : f k with
  | true => rfl
  | false => rw [allN_f hk hf] at h; cases h
def WD (z : ZZ) : Prop := ∀ r, r < nR z → ¬ z (5 + 4 * r) = 0
def colsW (z : ZZ) (r s : Nat) (wo : Int32) : Nat := sumN (nC z) fun k => b2 (!decide (nI k = wo) && cblk z k r s)
def ways (z : ZZ) (r s : Nat) : Nat := people z r s + colsW z r s (-1)
def seesB (z : ZZ) (r s : Nat) : Bool := decide (ways z r s = 0)
def canAdd (z : ZZ) (d : Int32) : Bool := decide (nR z < 10) && allN (nR z) fun r => !decide (z (5 + 4 * r) = d)
def seatsAll (z : ZZ) : Nat := sumN (nR z) fun r => nS z r
def takenIn (z : ZZ) (r : Nat) : Nat := sumN (nS z r) fun w => b2 (tk z r w)
def takenAll (z : ZZ) : Nat := sumN (nR z) fun r => takenIn z r
def inWayOfI (z : ZZ) (r f m : Nat) : Int32 := if allN m (fun j => !tk z r (f + j)) = true then nI (sumN m fun j => ways z r (f + j)) else -1
def pfS (z : ZZ) (m r f : Nat) (p : Int32 × Int32) : Int32 × Int32 := if inWayOfI z r f m = -1 then p else if p.1 = -1 then (nI (100 * r + f), inWayOfI z r f m) else if p.2 ≤ inWayOfI z r f m then p else (nI (100 * r + f), inWayOfI z r f m)
def pfR (z : ZZ) (m r : Nat) (p : Int32 × Int32) : Int32 × Int32 := itN (nS z r + 1 - m) (pfS z m r) p
def placeForI (z : ZZ) (m : Nat) : Int32 := (itN (nR z) (pfR z m) (-1, nI 0)).1
def upw (v b : Int32) : Int32 := if v ≤ 0 then -((-v) / b) else ((v + b) - nI 1) / b
def hgtFor (z : ZZ) (r a : Nat) : Int32 := (upw (headP z a * z (5 + 4 * r)) (z (5 + 4 * a)) - z 1) + z 0
def lfS (z : ZZ) (r a : Nat) (x : Int32) : Int32 := if hgtFor z r a ≤ x then x else hgtFor z r a
def leastForI (z : ZZ) (r : Nat) : Int32 := itN r (lfS z r) (nI 0)
def seeIn (z : ZZ) (r : Nat) (t : Bool) : Nat := sumN (nS z r) fun w => b2 ((!t || tk z r w) && seesB z r w)
def seeing (z : ZZ) (t : Bool) : Nat := sumN (nR z) fun r => seeIn z r t
def rowNowI (z : ZZ) (r wh : Nat) : Int32 := match wh with
  | 0 => z (5 + 4 * r)
  | 1 => z (5 + 4 * r + 1)
  | 2 => nI (nS z r)
  | 3 => nI (takenIn z r)
  | 4 => nI (seeIn z r false)
  | _ => z (5 + 4 * r + 1) - (if r = 0 then nI 0 else z (5 + 4 * (r - 1) + 1))
def blkA (z : ZZ) (r s : Nat) (t : Bool) (b : Nat) : Nat := sumN (nS z b) fun w => b2 ((tk z b w && blk z r s b w) && (!t || seesB z b w))
def blkd (z : ZZ) (r s : Nat) (t : Bool) : Nat := sumN (nR z - (r + 1)) fun j => blkA z r s t (r + 1 + j)
def isAheadB (z wy : ZZ) (r s r2 s2 : Nat) : Bool :=
  if wy (12 * r2 + s2) - wy (12 * r + s) = 0 ∧ r = r2 then
    (if 0 < absI (side z r s2) - absI (side z r s) then true else decide (absI (side z r s2) - absI (side z r s) = 0) && decide (s < s2))
  else (if 0 < wy (12 * r2 + s2) - wy (12 * r + s) then true else decide (wy (12 * r2 + s2) - wy (12 * r + s) = 0) && decide (r < r2))
def sAhR (z wy : ZZ) (r s : Nat) (t : Bool) (o : Nat) : Nat := sumN (nS z o) fun k => b2 ((!t || !tk z o k) && isAheadB z wy o k r s)
def sAh (z wy : ZZ) (r s : Nat) (t : Bool) : Nat := sumN (nR z) fun o => sAhR z wy r s t o
def cBehR (z : ZZ) (k r : Nat) : Nat := sumN (nS z r) fun w => b2 (cblk z k r w)
def cBeh (z : ZZ) (k : Nat) : Nat := sumN (nR z) fun r => cBehR z k r
def pairsR (z : ZZ) (r : Nat) : Nat := sumN (nS z r) fun w => if tk z r w = true then people z r w else 0
def pairsN (z : ZZ) : Nat := sumN (nR z) fun r => pairsR z r
def lgS (z : ZZ) (r w : Nat) (p : Int32 × Int32) : Int32 × Int32 := let h := if tk z r w = true then nI 0 else p.1 + nI 1; (h, if h ≤ p.2 then p.2 else h)
def lgR (z : ZZ) (r : Nat) (x : Int32) : Int32 := (itN (nS z r) (lgS z r) (nI 0, x)).2
def lgI (z : ZZ) : Int32 := itN (nR z) (lgR z) (nI 0)
def seeWoR (z : ZZ) (c : Int32) (r : Nat) : Nat := sumN (nS z r) fun w => b2 (decide (people z r w + colsW z r w c = 0))
def seeWo (z : ZZ) (c : Int32) : Nat := sumN (nR z) fun r => seeWoR z c r
def woS (z : ZZ) (k : Nat) (p : Int32 × Int32) : Int32 × Int32 := if nI (seeWo z (nI k)) ≤ p.2 then p else (nI k, nI (seeWo z (nI k)))
def worstI (z : ZZ) : Int32 := (itN (nC z) (woS z) (-1, -1)).1
def isSeatB (z : ZZ) (r s : Int32) : Bool := isRowB z r && wthn s (nI 0) (nI (nS z r.toNatClampNeg) - nI 1)
def bkS (z : ZZ) (r s a w : Nat) (x : Int32) : Int32 := if (tk z a w && blk z a w r s) = true then nI (100 * a + w) else x
def bkR (z : ZZ) (r s a : Nat) (x : Int32) : Int32 := itN (nS z a) (fun j => bkS z r s a (nS z a - 1 - j)) x
def blockerI (z : ZZ) (r s : Nat) : Int32 := itN r (bkR z r s) (-1)
theorem kx_subm1 (x : Int32) : x + Int32.ofInt (-1) = x - nI 1 := by
  rw [Int32.sub_eq_add_neg]; rfl
theorem kx_pm1 {k : Nat} (h : 0 < k) : nI k - nI 1 = nI (k - 1) := pk_sub h
theorem isRow_out {z : ZZ} (hw : WF z) {ro : Int32} (h : isRowB z ro = true) : ∃ r, r < nR z ∧ ro = nI r := by
  have hR := wf_R10 hw
  unfold isRowB wthn at h
  rw [Bool.and_eq_true, Bool.not_eq_true', Bool.not_eq_true', decide_eq_false_iff_not, decide_eq_false_iff_not] at h
  obtain ⟨h1, h2⟩ := h
  rcases Nat.eq_zero_or_pos (nR z) with q | q
  · exfalso
    rw [q] at h2
    have h3 : nI 0 - nI 1 = (-1 : Int32) := by decide
    rw [h3] at h2
    have h4 : ¬ ro.toInt < 0 := fun q => h1 (Int32.lt_iff_toInt_lt.mpr q)
    exact h2 (Int32.lt_iff_toInt_lt.mpr (by have : (-1 : Int32).toInt = -1 := by decide
                                            omega))
  · rw [kx_pm1 q] at h2
    obtain ⟨j, hj, rfl⟩ := nI_of h1
    refine ⟨j, ?_, rfl⟩
    rcases Nat.lt_or_ge j (nR z) with g | g
    · exact g
    · exact absurd (nI_lt (show nR z - 1 < j by omega) hj) h2
theorem wthn_out {n : Nat} {v : Int32} (hn : n ≤ 1000) (h : wthn v (nI 0) (nI n - nI 1) = true) : ∃ j, j < n ∧ v = nI j := by
  unfold wthn at h
  rw [Bool.and_eq_true, Bool.not_eq_true', Bool.not_eq_true', decide_eq_false_iff_not, decide_eq_false_iff_not] at h
  obtain ⟨h1, h2⟩ := h
  rcases Nat.eq_zero_or_pos n with q | q
  · exfalso
    rw [q] at h2
    have h3 : nI 0 - nI 1 = (-1 : Int32) := by decide
    rw [h3] at h2
    have h4 : ¬ v.toInt < 0 := fun q => h1 (Int32.lt_iff_toInt_lt.mpr q)
    exact h2 (Int32.lt_iff_toInt_lt.mpr (by have : (-1 : Int32).toInt = -1 := by decide
                                            omega))
  · rw [kx_pm1 q] at h2
    obtain ⟨j, hj, rfl⟩ := nI_of h1
    refine ⟨j, ?_, rfl⟩
    rcases Nat.lt_or_ge j n with g | g
    · exact g
    · exact absurd (nI_lt (show n - 1 < j by omega) hj) h2
theorem sumN_b {n b : Nat} {f : Nat → Nat} (h : ∀ k, k < n → f k ≤ b) : sumN n f ≤ n * b := by
  induction n with
  | zero => exact Nat.zero_le _
  | succ n ih =>
    have h1 := ih (fun k hk => h k (by omega))
    have h2 := h n (by omega)
    rw [sumN_s, Nat.succ_mul]; omega
theorem b2_b (b : Bool) : b2 b ≤ 1 := by cases b <;> decide
theorem people_b {z : ZZ} (hw : WF z) {r : Nat} (hr : r < nR z) (s : Nat) : people z r s ≤ 120 := by
  have hR := wf_R10 hw
  have h1 : people z r s ≤ r * 12 := sumN_b fun a ha => by
    have h2 := wf_S12 hw (show a < nR z by omega)
    have h3 : pplA z a r s ≤ nS z a * 1 := sumN_b fun w _ => b2_b _
    omega
  omega
theorem cols_b {z : ZZ} (hw : WF z) (r s : Nat) (wo : Int32) : colsW z r s wo ≤ 4 := by
  have h1 : colsW z r s wo ≤ nC z * 1 := sumN_b fun k _ => b2_b _
  have h2 := wf_C4 hw
  omega
theorem ways_b {z : ZZ} (hw : WF z) {r : Nat} (hr : r < nR z) (s : Nat) : ways z r s ≤ 124 := by
  have h1 := people_b hw hr s
  have h2 := cols_b hw r s (-1)
  unfold ways; omega
theorem absI_m (x : Int32) : (if 0 ≤ x then x else 0 - x) = absI x := by
  unfold absI
  by_cases h : x < 0
  · rw [if_pos h, if_neg (Int32.not_le.mpr h), Int32.zero_sub]
  · rw [if_neg h, if_pos (Int32.not_lt.mp h)]
def WS (z : ZZ) : Prop := ∀ a r, a < r → r < nR z → z (5 + 4 * a) < z (5 + 4 * r)
def colsN (z : ZZ) (r s : Nat) : Nat := sumN (nC z) fun k => b2 (cblk z k r s)
