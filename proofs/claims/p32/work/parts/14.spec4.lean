/-- the reference's public calls: what is thrown, what is answered, what is written -/
theorem nR_upd {z : ZZ} {i : Nat} {v : Int32} (h : i ≠ 3) : nR (upd z i v) = nR z := by unfold nR; rw [upd_ne (Ne.symm h)]
theorem nC_upd {z : ZZ} {i : Nat} {v : Int32} (h : i ≠ 4) : nC (upd z i v) = nC z := by unfold nC; rw [upd_ne (Ne.symm h)]
theorem wf_upd {z : ZZ} (hw : WF z) {i : Nat} {v : Int32} (h3 : i ≠ 3) (h4 : i ≠ 4) (h : ∀ r, r < nR z → i ≠ 5 + 4 * r + 2) : WF (upd z i v) := by
  have eS : ∀ q, q < nR z → upd z i v (5 + 4 * q + 2) = z (5 + 4 * q + 2) := fun q hq => upd_ne (Ne.symm (h q hq))
  have eN : ∀ q, q < nR z → nS (upd z i v) q = nS z q := fun q hq => by unfold nS; rw [eS q hq]
  refine ⟨?_, ?_, ?_, ?_, ?_⟩
  · rw [upd_ne (Ne.symm h3), nR_upd h3]; exact hw.1
  · rw [nR_upd h3]; exact hw.2.1
  · rw [upd_ne (Ne.symm h4), nC_upd h4]; exact hw.2.2.1
  · rw [nC_upd h4]; exact hw.2.2.2.1
  · intro q hq; rw [nR_upd h3] at hq; rw [eS q hq, eN q hq]; exact hw.2.2.2.2 q hq
def tAddRow (z : ZZ) (d h s : Int32) : Nat := if ((wthn d (nI 1) (nI 999) && wthn h (nI 0) (nI 999)) && wthn s (nI 1) (nI 12)) = true then (if canAdd z d = true then 0 else 2) else 1
def delS (z : ZZ) (r k : Nat) : ZZ := fun j => if j = 3 then nI (nR z - 1) else if 5 + 4 * r ≤ j ∧ j < k then z (j + 4) else z j
def delZ (z : ZZ) (r : Nat) : ZZ := delS z r (5 + 4 * (nR z - 1))
def tRow (z : ZZ) (r : Int32) : Nat := if isRowB z r = true then 0 else 1
def tLift (z : ZZ) (r h : Int32) : Nat := if isRowB z r = true then (if wthn h (nI 0) (nI 999) = true then 0 else 2) else 1
def liftZ (z : ZZ) (r : Nat) (h : Int32) : ZZ := upd z (5 + 4 * r + 1) h
def tAddCol (z : ZZ) (d s h : Int32) : Nat := if ((wthn d (nI 1) (nI 999) && wthn s (-12) (nI 12)) && wthn h (nI 0) (nI 5)) = true then (if nC z = 4 then 2 else 0) else 1
def addC (z : ZZ) (d s h : Int32) : ZZ := upd (upd (upd (upd z (45 + 3 * nC z) d) (45 + 3 * nC z + 1) s) (45 + 3 * nC z + 2) h) 4 (nI (nC z + 1))
def dlcS (z : ZZ) (c k : Nat) : ZZ := fun j => if j = 4 then nI (nC z - 1) else if 45 + 3 * c ≤ j ∧ j < k then z (j + 3) else z j
def dlcZ (z : ZZ) (c : Nat) : ZZ := dlcS z c (45 + 3 * (nC z - 1))
def tCol (z : ZZ) (c : Int32) : Nat := if isColB z c = true then 0 else 1
def isValB (s v : Int32) : Bool := if s = 0 then wthn v (nI 0) (nI 999) else if s = nI 1 then wthn v (nI 1) (nI 300) else wthn v (nI 0) (nI 100)
def tSet (s v : Int32) : Nat := if wthn s (nI 0) (nI 2) = true then (if isValB s v = true then 0 else 2) else 1
def cl (x : Int32) : Nat := x.toNatClampNeg
theorem cl_nI {n : Nat} (h : n < 2 ^ 31) : cl (nI n) = n := nI_clamp h
def tTake (z : ZZ) (r s : Int32) : Nat := if isSeatB z r s = true then (if tk z (cl r) (cl s) = true then 2 else 0) else 1
def tLeave (z : ZZ) (r s : Int32) : Nat := if isSeatB z r s = true then (if tk z (cl r) (cl s) = true then 0 else 2) else 1
def takeZ (z : ZZ) (r s : Nat) : ZZ := upd z (5 + 4 * r + 3) (z (5 + 4 * r + 3) ||| (nI 1 <<< (nI s &&& 31)))
def leaveZ (z : ZZ) (r s : Nat) : ZZ := upd z (5 + 4 * r + 3) (z (5 + 4 * r + 3) &&& ((nI 1 <<< (nI s &&& 31)) ^^^ (-1)))
def tParty (z : ZZ) (m : Int32) : Nat := if wthn m (nI 1) (nI 12) = true then (if placeForI z (cl m) = -1 then 2 else 0) else 1
def partyZ (z : ZZ) (r f m : Nat) : ZZ := itN m (fun k z => takeZ z r (f + k)) z
def clrS (z : ZZ) (k : Nat) : ZZ := fun j => if 5 ≤ j ∧ j < 5 + 4 * k ∧ (j - 5) % 4 = 3 then nI 0 else z j
def clrZ (z : ZZ) : ZZ := clrS z (nR z)
def laS (r : Nat) (p : ZZ × Nat) : ZZ × Nat := if leastForI p.1 r ≤ p.1 (5 + 4 * r + 1) then p else if nI 999 < leastForI p.1 r then p else (upd p.1 (5 + 4 * r + 1) (leastForI p.1 r), p.2 + 1)
def laN (z : ZZ) (k : Nat) : ZZ × Nat := itN k (fun j p => laS (1 + j) p) (z, 0)
def tApp (c : Int32) (nl : Nat) : Nat := if wthn c (nI 33) (nI 126) = true then (if nl = 60 then 2 else 0) else 1
def undS (z zh : ZZ) (b k : Nat) : ZZ := fun j => if j < k then zh (57 * b + j) else z j
def tRowW (z : ZZ) (r w : Int32) : Nat := if isRowB z r = true then (if wthn w (nI 0) (nI 5) = true then 0 else 2) else 1
def tSeatW (z : ZZ) (r s w : Int32) : Nat := if isSeatB z r s = true then (if wthn w (nI 0) (nI 6) = true then 0 else 2) else 1
def tColW (z : ZZ) (c w : Int32) : Nat := if isColB z c = true then (if wthn w (nI 0) (nI 3) = true then 0 else 2) else 1
def tSeat (z : ZZ) (r s : Int32) : Nat := if isSeatB z r s = true then 0 else 1
theorem isCol_out {z : ZZ} (hw : WF z) {co : Int32} (h : isColB z co = true) : ∃ k, k < nC z ∧ co = nI k := wthn_out (by have := wf_C4 hw; omega) h
theorem isSeat_out {z : ZZ} (hw : WF z) {r s : Int32} (h : isSeatB z r s = true) : ∃ r0 s0, r0 < nR z ∧ s0 < nS z r0 ∧ r = nI r0 ∧ s = nI s0 := by
  unfold isSeatB at h
  rw [Bool.and_eq_true] at h
  obtain ⟨r0, h0, rfl⟩ := isRow_out hw h.1
  have h2 := h.2
  rw [nI_clamp (show r0 < 2 ^ 31 by have := wf_R10 hw; omega)] at h2
  obtain ⟨s0, h3, rfl⟩ := wthn_out (by have := wf_S12 hw h0; omega) h2
  exact ⟨r0, s0, h0, h3, rfl, rfl⟩
theorem wthn3_out {v : Int32} (h : wthn v (nI 0) (nI 2) = true) : ∃ j, j < 3 ∧ v = nI j := wthn_out (n := 3) (by omega) (by rw [show nI 3 - nI 1 = nI 2 from by decide]; exact h)
theorem wthn6_out {v : Int32} (h : wthn v (nI 0) (nI 5) = true) : ∃ j, j < 6 ∧ v = nI j := wthn_out (n := 6) (by omega) (by rw [show nI 6 - nI 1 = nI 5 from by decide]; exact h)
theorem wthn7_out {v : Int32} (h : wthn v (nI 0) (nI 6) = true) : ∃ j, j < 7 ∧ v = nI j := wthn_out (n := 7) (by omega) (by rw [show nI 7 - nI 1 = nI 6 from by decide]; exact h)
theorem wthn4_out {v : Int32} (h : wthn v (nI 0) (nI 3) = true) : ∃ j, j < 4 ∧ v = nI j := wthn_out (n := 4) (by omega) (by rw [show nI 4 - nI 1 = nI 3 from by decide]; exact h)
theorem wthn9_out {v : Int32} (h : wthn v (nI 0) (nI 8) = true) : ∃ j, j < 9 ∧ v = nI j := wthn_out (n := 9) (by omega) (by rw [show nI 9 - nI 1 = nI 8 from by decide]; exact h)
theorem wthn13_out {v : Int32} (h : wthn v (nI 1) (nI 12) = true) : ∃ j, 1 ≤ j ∧ j ≤ 12 ∧ v = nI j := by
  unfold wthn at h
  rw [Bool.and_eq_true, Bool.not_eq_true', Bool.not_eq_true', decide_eq_false_iff_not, decide_eq_false_iff_not] at h
  obtain ⟨h1, h2⟩ := h
  have h0 : ¬ v < 0 := by
    intro q
    have h3 := Int32.lt_iff_toInt_lt.mp q
    have h4 : (nI 1).toInt = 1 := by decide
    have h5 : (0 : Int32).toInt = 0 := by decide
    exact h1 (Int32.lt_iff_toInt_lt.mpr (by omega))
  obtain ⟨j, hj, rfl⟩ := nI_of h0
  refine ⟨j, ?_, ?_, rfl⟩
  · rcases Nat.lt_or_ge j 1 with q | q
    · exact absurd (nI_lt q (by decide)) h1
    · exact q
  · rcases Nat.lt_or_ge 12 j with q | q
    · exact absurd (nI_lt q hj) h2
    · exact q
theorem wf_del {z : ZZ} (hw : WF z) {r : Nat} (hr : r < nR z) : WF (delZ z r) := by
  have hR := wf_R10 hw
  have e3 : delZ z r 3 = nI (nR z - 1) := by unfold delZ delS; rw [if_pos rfl]
  have e4 : delZ z r 4 = z 4 := by unfold delZ delS; rw [if_neg (by omega), if_neg (by omega)]
  have eR : nR (delZ z r) = nR z - 1 := by
    show (delZ z r 3).toNatClampNeg = nR z - 1
    rw [e3, nI_clamp (by omega)]
  have eC : nC (delZ z r) = nC z := by unfold nC; rw [e4]
  have eS : ∀ q, q < nR z - 1 → ∃ q2, q2 < nR z ∧ delZ z r (5 + 4 * q + 2) = z (5 + 4 * q2 + 2) := by
    intro q hq
    unfold delZ delS
    rw [if_neg (by omega)]
    by_cases g : 5 + 4 * r ≤ 5 + 4 * q + 2
    · rw [if_pos (by omega)]; exact ⟨q + 1, by omega, by rw [show 5 + 4 * q + 2 + 4 = 5 + 4 * (q + 1) + 2 by omega]⟩
    · rw [if_neg (by omega)]; exact ⟨q, by omega, rfl⟩
  refine ⟨?_, ?_, ?_, ?_, ?_⟩
  · rw [e3, eR]
  · omega
  · rw [e4, eC]; exact hw.2.2.1
  · rw [eC]; exact hw.2.2.2.1
  · intro q hq
    rw [eR] at hq
    obtain ⟨q2, h2, e⟩ := eS q hq
    have h3 := hw.2.2.2.2 q2 h2
    have eN : nS (delZ z r) q = nS z q2 := by unfold nS; rw [e]
    rw [e, eN]; exact h3
theorem pf_inv {z : ZZ} (m : Nat) {n k : Nat} {r : Nat} {x : Int32 × Int32} (hr : r < nR z) (hk : k ≤ nS z r + 1 - m) (hx : x.1 = -1 ∨ ∃ r0 f0, r0 < nR z ∧ f0 + m ≤ nS z r0 ∧ x.1 = nI (100 * r0 + f0)) (hm : 1 ≤ m) : (itN k (pfS z m r) x).1 = -1 ∨ ∃ r0 f0, r0 < nR z ∧ f0 + m ≤ nS z r0 ∧ (itN k (pfS z m r) x).1 = nI (100 * r0 + f0) := by
  induction k with
  | zero => exact hx
  | succ k ih =>
    have h := ih (by omega)
    rw [itN_s]
    unfold pfS
    split
    · exact h
    · split
      · exact Or.inr ⟨r, k, hr, by omega, rfl⟩
      · split
        · exact h
        · exact Or.inr ⟨r, k, hr, by omega, rfl⟩
theorem placeFor_out {z : ZZ} {m : Nat} (hm : 1 ≤ m) (h : ¬ placeForI z m = -1) : ∃ r0 f0, r0 < nR z ∧ f0 + m ≤ nS z r0 ∧ placeForI z m = nI (100 * r0 + f0) := by
  have K : ∀ k, k ≤ nR z → ((itN k (pfR z m) (-1, nI 0)).1 = -1 ∨ ∃ r0 f0, r0 < nR z ∧ f0 + m ≤ nS z r0 ∧ (itN k (pfR z m) (-1, nI 0)).1 = nI (100 * r0 + f0)) := by
    intro k
    induction k with
    | zero => intro _; exact Or.inl rfl
    | succ k ih => intro hk; rw [itN_s]; exact pf_inv (n := 0) m (by omega) (Nat.le_refl _) (ih (by omega)) hm
  rcases K (nR z) (Nat.le_refl _) with q | q
  · exact absurd q h
  · exact q
theorem laN_s (z : ZZ) (k : Nat) : laN z (k + 1) = laS (1 + k) (laN z k) := rfl
theorem laS_wf {p : ZZ × Nat} {r : Nat} (hw : WF p.1) (hd : WD p.1) (hr : r < nR p.1) : WF (laS r p).1 ∧ WD (laS r p).1 ∧ nR (laS r p).1 = nR p.1 ∧ (laS r p).2 ≤ p.2 + 1 := by
  unfold laS
  split
  · exact ⟨hw, hd, rfl, by omega⟩
  · split
    · exact ⟨hw, hd, rfl, by omega⟩
    · refine ⟨wf_upd hw (by omega) (by omega) (fun q _ => by omega), fun q hq => ?_, nR_upd (by omega), Nat.le_refl _⟩
      show ¬ upd p.1 _ _ _ = 0
      rw [upd_ne (by omega)]
      exact hd q (by rw [show nR (upd p.1 (5 + 4 * r + 1) (leastForI p.1 r)) = nR p.1 from nR_upd (by omega)] at hq; exact hq)
theorem laN_wf {z : ZZ} (hw : WF z) (hd : WD z) (k : Nat) (hk : k ≤ nR z - 1) : WF (laN z k).1 ∧ WD (laN z k).1 ∧ nR (laN z k).1 = nR z ∧ (laN z k).2 ≤ k := by
  induction k with
  | zero => exact ⟨hw, hd, rfl, Nat.le_refl _⟩
  | succ k ih =>
    obtain ⟨h1, h2, h3, h4⟩ := ih (by omega)
    obtain ⟨g1, g2, g3, g4⟩ := laS_wf (r := 1 + k) h1 h2 (by omega)
    rw [laN_s]
    exact ⟨g1, g2, g3.trans h3, by omega⟩
theorem canAdd_lt {z : ZZ} {d : Int32} (h : canAdd z d = true) : nR z < 10 := by
  unfold canAdd at h
  rw [Bool.and_eq_true, decide_eq_true_eq] at h
  exact h.1
theorem nI_ne_m1 {n : Nat} (h : n < 2 ^ 31) : ¬ nI n = -1 := by
  intro q
  have h1 := nI_toInt h
  rw [q] at h1
  have h2 : (-1 : Int32).toInt = -1 := by decide
  omega
