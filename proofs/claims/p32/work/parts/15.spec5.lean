/-- rows as a text, as the reference reads them: rows read, part, number (-1: none), the numbers read -/
abbrev PS : Type := Nat × Nat × Int32 × ZZ
def tdV (nu d : Int32) : Int32 := if nu = -1 then d else (nI 10 * nu) + d
def tdR (pt : Nat) (v : Int32) : Bool := if pt = 0 then wthn v (nI 1) (nI 999) else if pt = 1 then wthn v (nI 0) (nI 999) else wthn v (nI 1) (nI 12)
def tdB (nu : Int32) (pt : Nat) (d : Int32) : Bool := (wthn d (nI 0) (nI 9) && !decide (nu = 0)) && tdR pt (tdV nu d)
def tdNu (nu : Int32) (pt : Nat) (d : Int32) : Int32 := if tdB nu pt d = true then tdV nu d else nu
def sgn (pt : Nat) : Int32 := if pt = 0 then nI 94 else if pt = 1 then nI 42 else nI 59
def isSg (p : PS) (c : Int32) : Bool := !decide (p.2.2.1 = -1) && decide (c = sgn p.2.1)
def stepP (p : PS) (c : Int32) : PS := if isSg p c = true then ((if p.2.1 = 2 then p.1 + 1 else p.1), (if p.2.1 = 2 then 0 else p.2.1 + 1), -1, p.2.2.2) else (p.1, p.2.1, tdNu p.2.2.1 p.2.1 (c - nI 48), upd p.2.2.2 (3 * p.1 + p.2.1) (tdNu p.2.2.1 p.2.1 (c - nI 48)))
def okP (p : PS) (c : Int32) : Bool := isSg p c || tdB p.2.2.1 p.2.1 (c - nI 48)
def runP (tx pa : ZZ) (k : Nat) : PS := itN k (fun j p => stepP p (tx j)) (0, 0, -1, pa)
theorem runP_s (tx pa : ZZ) (k : Nat) : runP tx pa (k + 1) = stepP (runP tx pa k) (tx k) := rfl
def eN (tx pa : ZZ) : Nat → Nat
  | 0 => 0
  | k + 1 => if eN tx pa k = k ∧ okP (runP tx pa k) (tx k) = true then k + 1 else eN tx pa k
theorem eN_s (tx pa : ZZ) (k : Nat) : eN tx pa (k + 1) = if eN tx pa k = k ∧ okP (runP tx pa k) (tx k) = true then k + 1 else eN tx pa k := rfl
theorem eN_le (tx pa : ZZ) (k : Nat) : eN tx pa k ≤ k := by
  induction k with
  | zero => exact Nat.le_refl _
  | succ k ih => rw [eN_s]; split <;> omega
theorem eN_stop {tx pa : ZZ} {k n : Nat} (h : eN tx pa k = k) (hk : k < n) (hb : okP (runP tx pa k) (tx k) = false) : eN tx pa n = k := by
  induction n with
  | zero => omega
  | succ n ih =>
    rw [eN_s]
    rcases Nat.lt_or_ge k n with q | q
    · rw [ih q, if_neg (by omega)]
    · obtain rfl : k = n := by omega
      rw [if_neg (by rw [hb]; simp), h]
def finP (tx pa : ZZ) (n : Nat) : PS := if eN tx pa n = n then runP tx pa n else stepP (runP tx pa (eN tx pa n)) (tx (eN tx pa n))
theorem finP_a {tx pa : ZZ} {n : Nat} (h : eN tx pa n = n) : finP tx pa n = runP tx pa n := by unfold finP; rw [if_pos h]
theorem finP_b {tx pa : ZZ} {k n : Nat} (h : eN tx pa k = k) (hk : k < n) (hb : okP (runP tx pa k) (tx k) = false) : finP tx pa n = stepP (runP tx pa k) (tx k) := by
  have h1 := eN_stop h hk hb
  unfold finP; rw [if_neg (by omega), h1]
/-- what holds of the numbers read so far -/
def okN (pt : Nat) (v : Int32) : Prop := tdR pt v = true
def VP (p : PS) (k : Nat) : Prop := p.2.1 < 3 ∧ 6 * p.1 + 2 * p.2.1 + (if p.2.2.1 = -1 then 0 else 1) ≤ k ∧ (∀ i q, q < 3 → 3 * i + q < 3 * p.1 + p.2.1 → okN q (p.2.2.2 (3 * i + q))) ∧ (¬ p.2.2.1 = -1 → okN p.2.1 p.2.2.1 ∧ p.2.2.2 (3 * p.1 + p.2.1) = p.2.2.1)
theorem td_notm1 {pt : Nat} {v : Int32} (h : tdR pt v = true) : ¬ v = -1 := by
  intro q; subst q
  unfold tdR at h
  by_cases h0 : pt = 0
  · rw [if_pos h0] at h; exact absurd h (by decide)
  · rw [if_neg h0] at h
    by_cases h1 : pt = 1
    · rw [if_pos h1] at h; exact absurd h (by decide)
    · rw [if_neg h1] at h; exact absurd h (by decide)
theorem VP_step {p : PS} {k : Nat} {c : Int32} (h : VP p k) (hb : okP p c = true) : VP (stepP p c) (k + 1) := by
  obtain ⟨h1, h2, h3, h4⟩ := h
  obtain ⟨rd, pt, nu, pa⟩ := p
  simp only at h1 h2 h3 h4
  unfold okP at hb
  unfold stepP
  by_cases hs : isSg (rd, pt, nu, pa) c = true
  · rw [if_pos hs]
    have hnu : ¬ nu = -1 := by
      unfold isSg at hs
      rw [Bool.and_eq_true, Bool.not_eq_true', decide_eq_false_iff_not] at hs
      exact hs.1
    obtain ⟨g1, g2⟩ := h4 hnu
    rw [if_neg hnu] at h2
    have h3' : ∀ i q, q < 3 → 3 * i + q < 3 * rd + pt + 1 → okN q (pa (3 * i + q)) := by
      intro i q hq hi
      rcases Nat.lt_or_ge (3 * i + q) (3 * rd + pt) with a | a
      · exact h3 i q hq a
      · obtain rfl : i = rd := by omega
        obtain rfl : q = pt := by omega
        rw [g2]; exact g1
    by_cases e2 : pt = 2
    · simp only [e2, if_true]
      subst e2
      refine ⟨show 0 < 3 by omega, ?_, fun i q hq hi => h3' i q hq (show 3 * i + q < 3 * rd + 2 + 1 from hi), fun q => absurd rfl q⟩
      show 6 * (rd + 1) + 2 * 0 + (if (-1 : Int32) = -1 then 0 else 1) ≤ k + 1
      rw [if_pos rfl]; omega
    · simp only [e2, if_false]
      refine ⟨show pt + 1 < 3 by omega, ?_, fun i q hq hi => h3' i q hq (show 3 * i + q < 3 * rd + (pt + 1) from hi), fun q => absurd rfl q⟩
      show 6 * rd + 2 * (pt + 1) + (if (-1 : Int32) = -1 then 0 else 1) ≤ k + 1
      rw [if_pos rfl]; omega
  · have hs' : isSg (rd, pt, nu, pa) c = false := by simpa using hs
    rw [if_neg hs]
    rw [hs', Bool.false_or] at hb
    have hB : tdB nu pt (c - nI 48) = true := hb
    have eNu : tdNu nu pt (c - nI 48) = tdV nu (c - nI 48) := by unfold tdNu; rw [if_pos hB]
    have hR : tdR pt (tdV nu (c - nI 48)) = true := by
      unfold tdB at hB
      rw [Bool.and_eq_true] at hB
      exact hB.2
    simp only [eNu]
    refine ⟨h1, ?_, fun i q hq hi => ?_, fun _ => ⟨hR, upd_eq⟩⟩
    · show 6 * rd + 2 * pt + _ ≤ k + 1
      split <;> (split at h2 <;> omega)
    · show okN q (upd pa _ _ (3 * i + q))
      have hi' : 3 * i + q < 3 * rd + pt := hi
      rw [upd_ne (by omega)]
      exact h3 i q hq hi'
theorem runP_v {tx pa : ZZ} {k : Nat} (h : eN tx pa k = k) : VP (runP tx pa k) k := by
  induction k with
  | zero =>
    refine ⟨show 0 < 3 by omega, ?_, fun i q hq hi => absurd hi (show ¬ 3 * i + q < 3 * 0 + 0 by omega), fun q => absurd rfl q⟩
    show 6 * 0 + 2 * 0 + (if (-1 : Int32) = -1 then 0 else 1) ≤ 0
    rw [if_pos rfl]; omega
  | succ k ih =>
    rw [eN_s] at h
    have h1 := eN_le tx pa k
    split at h
    · rename_i g
      rw [runP_s]
      exact VP_step (ih g.1) g.2
    · omega
theorem runP_pt {tx pa : ZZ} {k : Nat} (h : eN tx pa k = k) : (runP tx pa k).2.1 < 3 := (runP_v h).1
theorem runP_rd {tx pa : ZZ} {k : Nat} (h : eN tx pa k = k) : 6 * (runP tx pa k).1 + 2 * (runP tx pa k).2.1 ≤ k := by
  have h2 := (runP_v h).2.1
  split at h2 <;> omega
theorem eN_in (tx pa : ZZ) (n : Nat) : eN tx pa (eN tx pa n) = eN tx pa n := by
  induction n with
  | zero => rfl
  | succ n ih =>
    by_cases g : eN tx pa n = n ∧ okP (runP tx pa n) (tx n) = true
    · rw [eN_s, if_pos g]; rw [eN_s, if_pos g]
    · rw [eN_s, if_neg g]; exact ih
theorem finP_pt (tx pa : ZZ) (n : Nat) : (finP tx pa n).2.1 < 3 := by
  unfold finP
  split
  · rename_i h; exact runP_pt h
  · have h1 := runP_pt (eN_in tx pa n)
    unfold stepP
    split
    · show (if (runP tx pa (eN tx pa n)).2.1 = 2 then 0 else (runP tx pa (eN tx pa n)).2.1 + 1 : Nat) < 3
      by_cases g : (runP tx pa (eN tx pa n)).2.1 = 2
      · rw [if_pos g]; omega
      · rw [if_neg g]; omega
    · exact h1
def tAll (tx pa : ZZ) (nl : Nat) : Nat := if eN tx pa nl = nl then (if (finP tx pa nl).2.1 = 2 then (if (finP tx pa nl).2.2.1 = -1 then 1 else 0) else 1) else 1
def adZ (z pa : ZZ) (k : Nat) : ZZ := itN k (fun j z => insZ z (pa (3 * j)) (pa (3 * j + 1)) (pa (3 * j + 2))) z
theorem adZ_s (z pa : ZZ) (k : Nat) : adZ z pa (k + 1) = insZ (adZ z pa k) (pa (3 * k)) (pa (3 * k + 1)) (pa (3 * k + 2)) := rfl
def adN (z pa : ZZ) : Nat → Nat
  | 0 => 0
  | k + 1 => if adN z pa k = k ∧ canAdd (adZ z pa k) (pa (3 * k)) = true then k + 1 else adN z pa k
theorem adN_s (z pa : ZZ) (k : Nat) : adN z pa (k + 1) = if adN z pa k = k ∧ canAdd (adZ z pa k) (pa (3 * k)) = true then k + 1 else adN z pa k := rfl
theorem adN_le (z pa : ZZ) (k : Nat) : adN z pa k ≤ k := by
  induction k with
  | zero => exact Nat.le_refl _
  | succ k ih => rw [adN_s]; split <;> omega
theorem adN_stop {z pa : ZZ} {k n : Nat} (h : adN z pa k = k) (hk : k < n) (hb : canAdd (adZ z pa k) (pa (3 * k)) = false) : adN z pa n = k := by
  induction n with
  | zero => omega
  | succ n ih =>
    rw [adN_s]
    rcases Nat.lt_or_ge k n with q | q
    · rw [ih q, if_neg (by omega)]
    · obtain rfl : k = n := by omega
      rw [if_neg (by rw [hb]; simp), h]
theorem insAt_b (z : ZZ) (d : Int32) (k : Nat) : insAt z d k ≤ k := by
  induction k with
  | zero => exact Nat.le_refl _
  | succ k ih =>
    show (if z (5 + 4 * k) ≤ d then k + 1 else insAt z d k : Nat) ≤ k + 1
    by_cases g : z (5 + 4 * k) ≤ d
    · rw [if_pos g]; exact Nat.le_refl _
    · rw [if_neg g]; omega
theorem nR_ins {z : ZZ} (h : nR z < 10) (d hh s : Int32) : nR (insZ z d hh s) = nR z + 1 := by
  have hk := insAt_b z d (nR z)
  have e : insZ z d hh s 3 = nI (nR z + 1) := by
    unfold insZ; rw [upd_ne (by omega), upd_ne (by omega), upd_ne (by omega), upd_ne (by omega), upd_eq]
  show (insZ z d hh s 3).toNatClampNeg = nR z + 1
  rw [e, nI_clamp (by omega)]
theorem wf_ins {z : ZZ} (hw : WF z) (h : nR z < 10) {d hh s : Int32} {j : Nat} (hj : j ≤ 12) (hs : s = nI j) : WF (insZ z d hh s) := by
  have hk := insAt_b z d (nR z)
  have hR := nR_ins h d hh s
  have e3 : insZ z d hh s 3 = nI (nR z + 1) := by
    unfold insZ; rw [upd_ne (by omega), upd_ne (by omega), upd_ne (by omega), upd_ne (by omega), upd_eq]
  have e4 : insZ z d hh s 4 = z 4 := by
    unfold insZ; rw [upd_ne (by omega), upd_ne (by omega), upd_ne (by omega), upd_ne (by omega), upd_ne (by omega)]; unfold shZ; rw [if_neg (by omega)]
  have eC : nC (insZ z d hh s) = nC z := by unfold nC; rw [e4]
  refine ⟨?_, ?_, ?_, ?_, ?_⟩
  · rw [e3, hR]
  · omega
  · rw [e4, eC]; exact hw.2.2.1
  · rw [eC]; exact hw.2.2.2.1
  · intro q hq
    rw [hR] at hq
    rcases Nat.lt_trichotomy q (insAt z d (nR z)) with g | g | g
    · have e : insZ z d hh s (5 + 4 * q + 2) = z (5 + 4 * q + 2) := by
        unfold insZ; rw [upd_ne (by omega), upd_ne (by omega), upd_ne (by omega), upd_ne (by omega), upd_ne (by omega)]; unfold shZ; rw [if_neg (by omega)]
      have eN : nS (insZ z d hh s) q = nS z q := by unfold nS; rw [e]
      rw [e, eN]; exact hw.2.2.2.2 q (by omega)
    · have e : insZ z d hh s (5 + 4 * q + 2) = s := by
        unfold insZ; rw [upd_ne (by omega), g, upd_eq]
      have eN : nS (insZ z d hh s) q = j := by unfold nS; rw [e, hs, nI_clamp (by omega)]
      rw [e, eN]; exact ⟨hs, hj⟩
    · obtain ⟨q2, rfl⟩ : ∃ q2, q = q2 + 1 := ⟨q - 1, by omega⟩
      have e : insZ z d hh s (5 + 4 * (q2 + 1) + 2) = z (5 + 4 * q2 + 2) := by
        unfold insZ; rw [upd_ne (by omega), upd_ne (by omega), upd_ne (by omega), upd_ne (by omega), upd_ne (by omega)]; unfold shZ; rw [if_pos (by omega)]; rw [show 5 + 4 * (q2 + 1) + 2 - 4 = 5 + 4 * q2 + 2 by omega]
      have eN : nS (insZ z d hh s) (q2 + 1) = nS z q2 := by unfold nS; rw [e]
      rw [e, eN]; exact hw.2.2.2.2 q2 (by omega)
/-- the rows that a whole text tells -/
theorem fin_ok {tx pa : ZZ} {nl : Nat} (h : tAll tx pa nl = 0) : eN tx pa nl = nl ∧ (finP tx pa nl).2.1 = 2 ∧ 6 * (finP tx pa nl).1 + 5 ≤ nl ∧ ∀ i q, q < 3 → i ≤ (finP tx pa nl).1 → okN q ((finP tx pa nl).2.2.2 (3 * i + q)) := by
  unfold tAll at h
  split at h
  · rename_i h1
    split at h
    · rename_i h2
      split at h
      · cases h
      · rename_i h3
        refine ⟨h1, h2, ?_⟩
        rw [finP_a h1] at h2 h3 ⊢
        obtain ⟨g1, g2, g3, g4⟩ := runP_v h1
        obtain ⟨k1, k2⟩ := g4 h3
        rw [if_neg h3] at g2
        refine ⟨by omega, fun i q hq hi => ?_⟩
        rcases Nat.lt_or_ge (3 * i + q) (3 * (runP tx pa nl).1 + (runP tx pa nl).2.1) with a | a
        · exact g3 i q hq a
        · have e1 : i = (runP tx pa nl).1 := by omega
          have e2 : q = (runP tx pa nl).2.1 := by omega
          rw [e1, e2, k2]; exact k1
    · cases h
  · cases h
theorem okN_2 {v : Int32} (h : okN 2 v) : ∃ j, 1 ≤ j ∧ j ≤ 12 ∧ v = nI j := by
  unfold okN tdR at h
  rw [if_neg (by decide), if_neg (by decide)] at h
  exact wthn13_out h
theorem adZ_wf {z : ZZ} (hw : WF z) {pa : ZZ} {n : Nat} (hp : ∀ i q, q < 3 → i ≤ n → okN q (pa (3 * i + q))) {k : Nat} (hk : k ≤ n + 1) (h : adN z pa k = k) : WF (adZ z pa k) := by
  induction k with
  | zero => exact hw
  | succ k ih =>
    rw [adN_s] at h
    have h1 := adN_le z pa k
    split at h
    · rename_i g
      rw [adZ_s]
      obtain ⟨j, -, hj, e⟩ := okN_2 (hp k 2 (by decide) (by omega))
      exact wf_ins (ih (by omega) g.1) (canAdd_lt g.2) hj e
    · omega
/-- the digest, as the reference makes it -/
def wyD (z : ZZ) (k : Nat) (wy : ZZ) : ZZ := itN k (fun r w => wyRow z (nS z r) w) wy
def dgA (z : ZZ) (ns k : Nat) (h : Int64) : Int64 := itN k (fun w h => mixL h (countI z ns w).toInt64) h
def dgB (z : ZZ) (k : Nat) (h : Int64) : Int64 := itN k (fun w h => mixL h (z w).toInt64) h
def dgC (z wy : ZZ) (k : Nat) (h : Int64) : Int64 := itN k (fun r h => mixRowL z (wyD z r wy) r h) h
def dgD (z : ZZ) (k : Nat) (h : Int64) : Int64 := itN k (fun j h => mixL h (colNow z (j / 4) (j % 4)).toInt64) h
def dgE (z wy : ZZ) (k : Nat) (h : Int64) : Int64 := itN k (fun j h => mixL h (bestI z (layF z (wyRow z j wy)) (nI j)).toInt64) h
def dgF (z : ZZ) (nl : Nat) (h : Int64) : Int64 := mixL (mixL (mixL h (worstI z).toInt64) (d2lb (shareD z))) (nI nl).toInt64
def dgG (tx : ZZ) (k : Nat) (h : Int64) : Int64 := itN k (fun j h => mixL h (tx j).toInt64) h
def dg1 (z : ZZ) (ns : Nat) : Int64 := dgB z 3 (dgA z ns 9 2621)
def dg2 (z wy : ZZ) (ns : Nat) : Int64 := dgD z (4 * nC z) (dgC z wy (nR z) (dg1 z ns))
def dg3 (z wy : ZZ) (ns nl : Nat) : Int64 := dgF z nl (dgE z (wyD z (nR z) wy) 3 (dg2 z wy ns))
def digI (z wy tx : ZZ) (ns nl : Nat) : Int64 := dgG tx nl (dg3 z wy ns nl)
theorem dgA_0 (z : ZZ) (ns : Nat) (h : Int64) : dgA z ns 0 h = h := rfl
theorem dgA_s (z : ZZ) (ns k : Nat) (h : Int64) : dgA z ns (k + 1) h = mixL (dgA z ns k h) (countI z ns k).toInt64 := rfl
theorem dgB_0 (z : ZZ) (h : Int64) : dgB z 0 h = h := rfl
theorem dgB_s (z : ZZ) (k : Nat) (h : Int64) : dgB z (k + 1) h = mixL (dgB z k h) (z k).toInt64 := rfl
theorem dgC_0 (z wy : ZZ) (h : Int64) : dgC z wy 0 h = h := rfl
theorem dgC_s (z wy : ZZ) (k : Nat) (h : Int64) : dgC z wy (k + 1) h = mixRowL z (wyD z k wy) k (dgC z wy k h) := rfl
theorem dgD_0 (z : ZZ) (h : Int64) : dgD z 0 h = h := rfl
theorem dgD_s (z : ZZ) (k : Nat) (h : Int64) : dgD z (k + 1) h = mixL (dgD z k h) (colNow z (k / 4) (k % 4)).toInt64 := rfl
theorem dgE_0 (z wy : ZZ) (h : Int64) : dgE z wy 0 h = h := rfl
theorem dgE_s (z wy : ZZ) (k : Nat) (h : Int64) : dgE z wy (k + 1) h = mixL (dgE z wy k h) (bestI z (layF z (wyRow z k wy)) (nI k)).toInt64 := rfl
theorem dgG_0 (tx : ZZ) (h : Int64) : dgG tx 0 h = h := rfl
theorem dgG_s (tx : ZZ) (k : Nat) (h : Int64) : dgG tx (k + 1) h = mixL (dgG tx k h) (tx k).toInt64 := rfl
