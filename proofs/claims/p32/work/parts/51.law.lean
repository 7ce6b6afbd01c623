/-! the law's own arrays beside the hall: rows, columns, numbers -/
def NN (z : ZZ) (nk : Nat) (nf : ZZ) : Prop := nf 0 = nI (nR z) ∧ nf 1 = nI (nC z) ∧ nf 2 = nI nk ∧ nf 3 = z 0 ∧ nf 4 = z 1 ∧ nf 5 = z 2
def RO (z rf : ZZ) : Prop := ∀ j, j < 4 * nR z → rf j = z (5 + j)
def CO (z cf : ZZ) : Prop := ∀ j, j < 3 * nC z → cf j = z (45 + j)
theorem ro_0 {z rf : ZZ} (h : RO z rf) {r : Nat} (hr : r < nR z) : rf (4 * r) = z (5 + 4 * r) := h _ (by omega)
theorem ro_1 {z rf : ZZ} (h : RO z rf) {r : Nat} (hr : r < nR z) : rf (4 * r + 1) = z (5 + 4 * r + 1) := (h (4 * r + 1) (by omega)).trans (congrArg z (by omega))
theorem ro_2 {z rf : ZZ} (h : RO z rf) (hw : WF z) {r : Nat} (hr : r < nR z) : rf (4 * r + 2) = nI (nS z r) := ((h (4 * r + 2) (by omega)).trans (congrArg z (by omega))).trans (wf_S hw hr)
theorem ro_3 {z rf : ZZ} (h : RO z rf) {r : Nat} (hr : r < nR z) : rf (4 * r + 3) = z (5 + 4 * r + 3) := (h (4 * r + 3) (by omega)).trans (congrArg z (by omega))
theorem cz_0 {z cf : ZZ} (h : CO z cf) {k : Nat} (hk : k < nC z) : cf (3 * k) = z (45 + 3 * k) := h _ (by omega)
theorem cz_1 {z cf : ZZ} (h : CO z cf) {k : Nat} (hk : k < nC z) : cf (3 * k + 1) = z (45 + 3 * k + 1) := (h (3 * k + 1) (by omega)).trans (congrArg z (by omega))
theorem cz_2 {z cf : ZZ} (h : CO z cf) {k : Nat} (hk : k < nC z) : cf (3 * k + 2) = z (45 + 3 * k + 2) := (h (3 * k + 2) (by omega)).trans (congrArg z (by omega))
theorem ro_w {z rf : ZZ} (h : RO z rf) (hw : WF z) {r w : Nat} (hr : r < nR z) (hw3 : w < 3) : rf (4 * r + w) = rowNowI z r w := by
  rcases (show w = 0 ∨ w = 1 ∨ w = 2 by omega) with rfl | rfl | rfl
  · exact ro_0 h hr
  · exact ro_1 h hr
  · exact ro_2 h hw hr
theorem cz_w {z cf : ZZ} (h : CO z cf) {k w : Nat} (hk : k < nC z) (hw3 : w < 3) : cf (3 * k + w) = colNow z k w := by
  unfold colNow
  rw [if_pos hw3]
  exact (h (3 * k + w) (by omega)).trans (congrArg z (by omega))
/-! what the law makes of a number -/
def hfN (x : Int32) : Nat := x.toBitVec.toNat / 2 ^ 1
theorem hfN_lt (x : Int32) : hfN x < 2 ^ 31 := by
  unfold hfN; have := x.toBitVec.isLt; omega
theorem ush_1 (x : Int32) : ush x (nI 1) = nI (hfN x) := by
  refine Int32.toBitVec_inj.mp (BitVec.eq_of_toNat_eq ?_)
  rw [pk_tn (show hfN x < 2 ^ 32 by have := hfN_lt x; omega)]
  exact pk_ushr x (nI 1) 1 (by decide)
def atN (v : Int32) (n : Nat) : Nat := hfN v % n
theorem atN_lt (v : Int32) {n : Nat} (h : 0 < n) : atN v n < n := Nat.mod_lt _ h
theorem sd_eq (k n : Nat) : nI (2 * k + 1) - nI n = nI (2 * k) - (nI n - nI 1) := by
  rw [← nI_add]
  grind
theorem and1_tk (z : ZZ) (r w : Nat) : (z (5 + 4 * r + 3) >>> (nI w &&& 31)) &&& nI 1 = nI (b2 (tk z r w)) := by
  unfold tk
  generalize z (5 + 4 * r + 3) >>> (nI w &&& 31) = x
  have h := pk_and x (m := nI 1) 1 (by decide)
  rw [h]
  generalize x.toBitVec.toNat = t
  rcases (show t % 2 ^ 1 = 0 ∨ t % 2 ^ 1 = 1 by omega) with q | q <;> rw [q] <;> decide
def aF (z : ZZ) (wh r w : Nat) : Nat := if wh = 0 then 1 else b2 (tk z r w)
def allL (z : ZZ) (wh : Nat) : Nat := sumN (nR z) fun r => sumN (nS z r) (aF z wh r)
theorem sumN_e {n : Nat} {f g : Nat → Nat} (h : ∀ k, k < n → f k = g k) : sumN n f = sumN n g := by
  induction n with
  | zero => rfl
  | succ n ih => rw [sumN_s, sumN_s, ih (fun k hk => h k (by omega)), h n (by omega)]
theorem sumN_1 (n : Nat) : sumN n (fun _ => 1) = n := by
  induction n with
  | zero => rfl
  | succ n ih => rw [sumN_s, ih]
theorem allL_0 (z : ZZ) : allL z 0 = seatsAll z := sumN_e fun r _ => (sumN_e fun w _ => if_pos rfl).trans (sumN_1 _)
theorem allL_1 (z : ZZ) : allL z 1 = takenAll z := sumN_e fun r _ => sumN_e fun w _ => if_neg (by omega)
theorem allL_b {z : ZZ} (hw : WF z) (wh : Nat) : allL z wh ≤ 120 := by
  have hR := wf_R10 hw
  have h : allL z wh ≤ nR z * 12 := sumN_b fun r hr => by
    have h2 := wf_S12 hw hr
    have h3 : sumN (nS z r) (aF z wh r) ≤ nS z r * 1 := sumN_b fun w _ => by
      unfold aF; split
      · exact Nat.le_refl _
      · exact b2_b _
    omega
  omega
theorem sumN_cut {n r : Nat} {f : Nat → Nat} (hr : r ≤ n) (h : ∀ j, r ≤ j → j < n → f j = 0) : sumN n f = sumN r f := by
  induction n with
  | zero => rw [show r = 0 by omega]
  | succ n ih =>
    rcases Nat.lt_or_ge n r with q | q
    · rw [show r = n + 1 by omega]
    · rw [sumN_s, ih q (fun j h1 h2 => h j h1 (by omega)), h n q (by omega), Nat.add_zero]
theorem ppl_all {z : ZZ} {r : Nat} (hr : r < nR z) (k : Nat) : sumN (nR z) (fun a => pplA z a r k) = people z r k := by
  refine sumN_cut (by omega) (fun j h1 _ => ?_)
  have h2 : pplA z j r k ≤ nS z j * 0 := sumN_b fun w _ => by
    unfold blk
    rw [decide_eq_false (by omega), Bool.false_and, Bool.and_false]; exact Nat.le_refl _
  omega
/-! comparisons, as the law writes them -/
theorem ng_ti (x : Int32) : (-x).toInt = -x.toInt ∨ (x.toInt = -2147483648 ∧ (-x).toInt = -2147483648) := by
  rcases Int.lt_or_le (-2147483648) x.toInt with h | h
  · exact Or.inl (ti_neg h)
  · have h1 : -2147483648 ≤ x.toInt := Int32.le_toInt x
    have h2 : x.toInt = -2147483648 := by omega
    refine Or.inr ⟨h2, ?_⟩
    rw [Int32.toInt_neg, h2]; decide
theorem near_law {x u : Int32} (hu : 0 < u.toInt) : (!decide (u ≤ absI x)) = (decide (x < u) && decide (-x < u)) := by
  rw [Bool.eq_iff_iff, Bool.not_eq_true', decide_eq_false_iff_not, Bool.and_eq_true, decide_eq_true_eq, decide_eq_true_eq, Int32.le_iff_toInt_le, Int32.lt_iff_toInt_lt, Int32.lt_iff_toInt_lt]
  unfold absI
  have h0 : (0 : Int32).toInt = 0 := by decide
  rcases ng_ti x with g | ⟨g1, g2⟩
  · by_cases h : x < 0
    · have h' := Int32.lt_iff_toInt_lt.mp h
      rw [if_pos h, g]; omega
    · have h' : ¬ x.toInt < (0 : Int32).toInt := fun q => h (Int32.lt_iff_toInt_lt.mpr q)
      rw [if_neg h, g]; omega
  · have h : x < 0 := Int32.lt_iff_toInt_lt.mpr (by omega)
    rw [if_pos h, g1, g2]; omega
theorem wide_law (x w : Int32) : (!decide (w < absI x)) = (decide (x ≤ w) && decide (-x ≤ w)) := by
  rw [Bool.eq_iff_iff, Bool.not_eq_true', decide_eq_false_iff_not, Bool.and_eq_true, decide_eq_true_eq, decide_eq_true_eq, Int32.le_iff_toInt_le, Int32.le_iff_toInt_le, Int32.lt_iff_toInt_lt]
  unfold absI
  have h0 : (0 : Int32).toInt = 0 := by decide
  rcases ng_ti x with g | ⟨g1, g2⟩
  · by_cases h : x < 0
    · have h' := Int32.lt_iff_toInt_lt.mp h
      rw [if_pos h, g]; omega
    · have h' : ¬ x.toInt < (0 : Int32).toInt := fun q => h (Int32.lt_iff_toInt_lt.mpr q)
      rw [if_neg h, g]; omega
  · have h : x < 0 := Int32.lt_iff_toInt_lt.mpr (by omega)
    rw [if_pos h, g1, g2]; omega
theorem l_mul {a b : Int32} (h1 : -2000000 ≤ a.toInt * b.toInt) (h2 : a.toInt * b.toInt ≤ 2000000) : (a.toInt64 * b.toInt64).toInt = a.toInt * b.toInt := by
  rw [Int64.toInt_mul, Int32.toInt_toInt64, Int32.toInt_toInt64]
  exact Int.bmod_eq_of_le (by omega) (by omega)
theorem lc_0 (x y : Int64) : lcI x y ≤ 0 ↔ x.toInt ≤ y.toInt := by
  unfold lcI
  by_cases h : x > y
  · rw [if_pos h]
    have h1 : y.toInt < x.toInt := Int64.lt_iff_toInt_lt.mp h
    constructor
    · intro q; exact absurd q (by decide)
    · intro q; omega
  · rw [if_neg h]
    have h1 : ¬ y.toInt < x.toInt := fun q => h (Int64.lt_iff_toInt_lt.mpr q)
    by_cases h2 : (x == y) = true
    · rw [if_pos h2]
      exact ⟨fun _ => by omega, fun _ => by decide⟩
    · rw [if_neg h2]
      exact ⟨fun _ => by omega, fun _ => by decide⟩
theorem eye_ti {z : ZZ} (h : VAL z) {r : Nat} (hr : r < nR z) : -998 ≤ (eyeP z r).toInt ∧ (eyeP z r).toInt ≤ 1399 := by
  obtain ⟨a1, a2⟩ := (h.2.2.2.1 r hr).2.1
  obtain ⟨⟨b1, b2⟩, ⟨c1, c2⟩, ⟨d1, d2⟩⟩ := h.2.2.2.2
  unfold eyeP
  have e1 : (z (5 + 4 * r + 1) + z 1).toInt = (z (5 + 4 * r + 1)).toInt + (z 1).toInt := ti_add (by omega) (by omega)
  rw [ti_sub (by omega) (by omega), e1]; omega
theorem ord_law {z : ZZ} (h : WS z) {a r : Nat} (ha : a < nR z) (hr : r < nR z) : decide (a < r) = decide (z (5 + 4 * a) < z (5 + 4 * r)) := by
  rw [Bool.eq_iff_iff, decide_eq_true_eq, decide_eq_true_eq]
  constructor
  · exact fun q => h a r q hr
  · intro q
    rcases Nat.lt_trichotomy a r with g | g | g
    · exact g
    · subst g; exact absurd q Int32.lt_irrefl
    · have q2 := h r a g ha
      rw [Int32.lt_iff_toInt_lt] at q q2; omega
theorem high_law {z : ZZ} (h : VAL z) {a r : Nat} (ha : a < nR z) (hr : r < nR z) : higher z a r = !decide (lcI ((headP z a).toInt64 * (z (5 + 4 * r)).toInt64) ((eyeP z r).toInt64 * (z (5 + 4 * a)).toInt64) ≤ 0) := by
  obtain ⟨h1, h2⟩ := head_ti h ha
  obtain ⟨e1, e2⟩ := eye_ti h hr
  obtain ⟨d1, d2⟩ := (h.2.2.2.1 r hr).1
  obtain ⟨n1, n2⟩ := (h.2.2.2.1 a ha).1
  obtain ⟨m1, m2⟩ := mul_b h1 h2 d1 d2
  obtain ⟨k1, k2⟩ := mul_b e1 e2 n1 n2
  unfold higher
  refine congrArg (fun b : Bool => !b) (decide_eq_decide.mpr ((Int32.le_iff_toInt_le.trans ?_).trans (lc_0 _ _).symm))
  rw [l_mul m1 m2, l_mul k1 k2, ti_mul (by omega) (by omega), ti_mul (by omega) (by omega)]
theorem blk_law {z : ZZ} (h : VAL z) {a r : Nat} (ha : a < nR z) (hr : r < nR z) (w k : Nat) : blk z a w r k = (decide (z (5 + 4 * a) < z (5 + 4 * r)) && (!decide (lcI ((headP z a).toInt64 * (z (5 + 4 * r)).toInt64) ((eyeP z r).toInt64 * (z (5 + 4 * a)).toInt64) ≤ 0) && (decide (side z a w * z (5 + 4 * r) - side z r k * z (5 + 4 * a) < z (5 + 4 * r)) && decide (-(side z a w * z (5 + 4 * r) - side z r k * z (5 + 4 * a)) < z (5 + 4 * r))))) := by
  unfold blk nearH
  rw [ord_law h.2.1 ha hr, high_law h ha hr, near_law (by have := (h.2.2.2.1 r hr).1.1; omega)]
theorem cblk_law (z : ZZ) (k r s : Nat) : cblk z k r s = (decide (z (45 + 3 * k) < z (5 + 4 * r)) && (decide (z (45 + 3 * k + 1) * z (5 + 4 * r) - side z r s * z (45 + 3 * k) ≤ z (45 + 3 * k + 2) * z (5 + 4 * r)) && decide (-(z (45 + 3 * k + 1) * z (5 + 4 * r) - side z r s * z (45 + 3 * k)) ≤ z (45 + 3 * k + 2) * z (5 + 4 * r)))) := by
  unfold cblk
  rw [wide_law]
  congr 1
  rw [Bool.eq_iff_iff, Bool.not_eq_true', decide_eq_false_iff_not, decide_eq_true_eq]
  exact Int32.not_le
/-! no free seats side by side -/
section PCS
variable {z : ZZ} {m r f : Nat} {p : Int32 × Int32}
theorem pcS_a (h : freeB z r f m = false) : pcS z m r f p = p := by unfold pcS; rw [if_pos h]
theorem pcS_b (h : freeB z r f m = true) (h1 : p.1 = -1) : pcS z m r f p = (nI (100 * r + f), nI (sumN m fun j => ways z r (f + j))) := by
  unfold pcS; rw [if_neg (by rw [h]; decide), if_pos h1]
theorem pcS_c (h : freeB z r f m = true) (h1 : ¬ p.1 = -1) (h2 : p.2 ≤ nI (sumN m fun j => ways z r (f + j))) : pcS z m r f p = p := by
  unfold pcS; rw [if_neg (by rw [h]; decide), if_neg h1, if_pos h2]
theorem pcS_d (h : freeB z r f m = true) (h1 : ¬ p.1 = -1) (h2 : ¬ p.2 ≤ nI (sumN m fun j => ways z r (f + j))) : pcS z m r f p = (nI (100 * r + f), nI (sumN m fun j => ways z r (f + j))) := by
  unfold pcS; rw [if_neg (by rw [h]; decide), if_neg h1, if_neg h2]
end PCS
theorem pc_keep {z : ZZ} {m r f : Nat} {p : Int32 × Int32} (hf : 100 * r + f < 2 ^ 31) (h : ¬ p.1 = -1) : ¬ (pcS z m r f p).1 = -1 := by
  cases hb : freeB z r f m with
  | false => rw [pcS_a hb]; exact h
  | true =>
    by_cases g : p.2 ≤ nI (sumN m fun j => ways z r (f + j))
    · rw [pcS_c hb h g]; exact h
    · rw [pcS_d hb h g]; exact nI_ne_m1 hf
theorem pc_hit {z : ZZ} {m r f : Nat} {p : Int32 × Int32} (hf : 100 * r + f < 2 ^ 31) (h : freeB z r f m = true) : ¬ (pcS z m r f p).1 = -1 := by
  by_cases q : p.1 = -1
  · rw [pcS_b h q]; exact nI_ne_m1 hf
  · exact pc_keep hf q
theorem pcR_keep {z : ZZ} {m r : Nat} (hr : r < 1000) {n : Nat} (hn : n < 1000) {p : Int32 × Int32} (h : ¬ p.1 = -1) : ¬ (itN n (pcS z m r) p).1 = -1 := by
  induction n with
  | zero => exact h
  | succ n ih => rw [itN_s]; exact pc_keep (by omega) (ih (by omega))
theorem pcR_hit {z : ZZ} {m r f : Nat} (hr : r < 1000) {n : Nat} (hn : n < 1000) (hf : f < n) {p : Int32 × Int32} (h : freeB z r f m = true) : ¬ (itN n (pcS z m r) p).1 = -1 := by
  induction n with
  | zero => omega
  | succ n ih =>
    rw [itN_s]
    rcases Nat.lt_or_ge f n with q | q
    · exact pc_keep (by omega) (ih (by omega) q)
    · rw [show f = n by omega] at h
      exact pc_hit (by omega) h
theorem no_free {z : ZZ} (hw : WF z) {m : Nat} (hm : 1 ≤ m) (h : placeForI z m = -1) {r f : Nat} (hr : r < nR z) (hf : f + m ≤ nS z r) : freeB z r f m = false := by
  have hR := wf_R10 hw
  cases hb : freeB z r f m with
  | false => rfl
  | true =>
    exfalso
    rw [← place_pc hw hm] at h
    have K : ∀ k, k ≤ nR z → r < k → ¬ (itN k (pcR z m) (-1, nI 0)).1 = -1 := by
      intro k
      induction k with
      | zero => intro _ q; omega
      | succ k ih =>
        intro hk hrk
        have hS := wf_S12 hw (show k < nR z by omega)
        rw [itN_s]
        rcases Nat.lt_or_ge r k with q | q
        · exact pcR_keep (by omega) (by omega) (ih (by omega) q)
        · obtain rfl : r = k := by omega
          exact pcR_hit (by omega) (by omega) (f := f) (by omega) hb
    exact K (nR z) (Nat.le_refl _) hr h
theorem lg_row {z : ZZ} {m r : Nat} (hm : 1 ≤ m) (hS : nS z r ≤ 12) (h : ∀ f, f + m ≤ nS z r → freeB z r f m = false) {b0 : Nat} (hb0 : b0 < m) (hm2 : m ≤ 12) : ∀ k, k ≤ nS z r → ∃ a b : Nat, itN k (lgS z r) (nI 0, nI b0) = (nI a, nI b) ∧ a ≤ k ∧ b < m ∧ a < m ∧ ∀ j, k - a ≤ j → j < k → tk z r j = false := by
  intro k
  induction k with
  | zero => intro _; exact ⟨0, b0, rfl, Nat.le_refl _, hb0, hm, fun j _ h2 => absurd h2 (Nat.not_lt_zero j)⟩
  | succ k ih =>
    intro hk
    obtain ⟨a, b, e, ha, hb, ham, hj⟩ := ih (by omega)
    rw [itN_s, e]
    unfold lgS
    cases ht : tk z r k with
    | true =>
      refine ⟨0, b, ?_, by omega, hb, hm, fun j h1 h2 => by omega⟩
      simp only [if_true]
      rw [if_pos (nI_le (Nat.zero_le b) (by omega))]
    | false =>
      have ha1 : a + 1 < m := by
        rcases Nat.lt_or_ge (a + 1) m with q | q
        · exact q
        · exfalso
          have hf := h (k + 1 - m) (by omega)
          rw [freeB_all z r (k + 1 - m) (by omega)] at hf
          have ht2 : allN m (fun j => !tk z r (k + 1 - m + j)) = true := allN_t fun j hjm => by
            rcases Nat.lt_or_ge (k + 1 - m + j) k with g | g
            · rw [hj _ (by omega) g]; rfl
            · rw [show k + 1 - m + j = k by omega, ht]; rfl
          rw [ht2] at hf; cases hf
      refine ⟨a + 1, (if a + 1 ≤ b then b else a + 1), ?_, by omega, by split <;> omega, ha1, fun j h1 h2 => ?_⟩
      · simp only [Bool.false_eq_true, if_false]
        rw [show nI a + nI 1 = nI (a + 1) from nI_add a 1]
        by_cases g : a + 1 ≤ b
        · rw [if_pos g, if_pos (nI_le g (by omega))]
        · rw [if_neg g, if_neg (fun q => g ((nI_leI (by omega) (by omega)).mp q))]
      · rcases Nat.lt_or_ge j k with g | g
        · exact hj j (by omega) g
        · rw [show j = k by omega]; exact ht
theorem lg_lt {z : ZZ} (hw : WF z) {m : Nat} (hm : 1 ≤ m) (hm2 : m ≤ 12) (h : placeForI z m = -1) : lgI z < nI m := by
  have K : ∀ k, k ≤ nR z → ∃ b : Nat, b < m ∧ itN k (lgR z) (nI 0) = nI b := by
    intro k
    induction k with
    | zero => intro _; exact ⟨0, hm, rfl⟩
    | succ k ih =>
      intro hk
      obtain ⟨b, hb, e⟩ := ih (by omega)
      obtain ⟨a, b1, e1, -, hb1, -, -⟩ := lg_row (m := m) hm (wf_S12 hw (show k < nR z by omega)) (fun f hf => no_free hw hm h (show k < nR z by omega) hf) hb hm2 (nS z k) (Nat.le_refl _)
      refine ⟨b1, hb1, ?_⟩
      rw [itN_s, e]
      unfold lgR
      rw [e1]
  obtain ⟨b, hb, e⟩ := K (nR z) (Nat.le_refl _)
  unfold lgI
  rw [e]
  exact nI_lt hb (by omega)
/-! a place is -1 or a seat -/
theorem pc_neg {z : ZZ} (hw : WF z) {m r k : Nat} (hr : r < nR z) (hk : k ≤ nS z r + 1 - m) (hm : 1 ≤ m) {p : Int32 × Int32} (hp : p.1 = -1 ∨ 0 ≤ p.1) : (itN k (pcS z m r) p).1 = -1 ∨ 0 ≤ (itN k (pcS z m r) p).1 := by
  have hR := wf_R10 hw
  have hS := wf_S12 hw hr
  induction k with
  | zero => exact hp
  | succ k ih =>
    have h := ih (by omega)
    have h0 : 0 ≤ nI (100 * r + k) := nI_pos' (by omega)
    rw [itN_s]
    cases hb : freeB z r k m with
    | false => rw [pcS_a hb]; exact h
    | true =>
      by_cases q : (itN k (pcS z m r) p).1 = -1
      · rw [pcS_b hb q]; exact Or.inr h0
      · by_cases g : (itN k (pcS z m r) p).2 ≤ nI (sumN m fun j => ways z r (k + j))
        · rw [pcS_c hb q g]; exact h
        · rw [pcS_d hb q g]; exact Or.inr h0
theorem pcR_neg {z : ZZ} (hw : WF z) {m : Nat} (hm : 1 ≤ m) : ∀ k, k ≤ nR z → ((itN k (pcR z m) (-1, nI 0)).1 = -1 ∨ 0 ≤ (itN k (pcR z m) (-1, nI 0)).1) := by
  intro k
  induction k with
  | zero => intro _; exact Or.inl rfl
  | succ k ih => intro hk; rw [itN_s]; exact pc_neg hw (by omega) (Nat.le_refl _) hm (ih (by omega))
theorem m1_lt {x : Int32} (h : x = -1 ∨ 0 ≤ x) : (x < 0) ↔ x = -1 := by
  constructor
  · intro q
    rcases h with g | g
    · exact g
    · exact absurd q (Int32.not_lt.mpr g)
  · intro q; rw [q]; decide
