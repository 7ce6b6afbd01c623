/-! the order of seats: the reference's comparisons are those of one number a seat -/
theorem sumN_c {n : Nat} {f g : Nat → Nat} (h : ∀ k, k < n → f k = g k) : sumN n f = sumN n g := by
  induction n with
  | zero => rfl
  | succ n ih => rw [sumN_s, sumN_s, ih (fun k hk => h k (by omega)), h n (by omega)]
theorem itN_c {α : Type} {n : Nat} {f g : Nat → α → α} {x : α} (h : ∀ k y, k < n → f k y = g k y) : itN n f x = itN n g x := by
  induction n with
  | zero => rfl
  | succ n ih => rw [itN_s, itN_s, ih (fun k y hk => h k y (by omega)), h n _ (by omega)]
theorem sumN_le {n : Nat} {f g : Nat → Nat} (h : ∀ k, k < n → f k ≤ g k) : sumN n f ≤ sumN n g := by
  induction n with
  | zero => exact Nat.le_refl _
  | succ n ih =>
    have h1 := ih (fun k hk => h k (by omega))
    have h2 := h n (by omega)
    rw [sumN_s, sumN_s]; omega
theorem sumN_lt {n : Nat} {f g : Nat → Nat} (h : ∀ k, k < n → f k ≤ g k) {j : Nat} (hj : j < n) (h2 : f j < g j) : sumN n f < sumN n g := by
  induction n with
  | zero => omega
  | succ n ih =>
    rw [sumN_s, sumN_s]
    rcases Nat.lt_or_ge j n with q | q
    · have h1 := ih (fun k hk => h k (by omega)) q
      have h3 := h n (by omega)
      omega
    · obtain rfl : j = n := by omega
      have h1 := sumN_le (n := j) (fun k hk => h k (show k < j + 1 by omega))
      omega
theorem sumN_add {n : Nat} {f g : Nat → Nat} : sumN n (fun k => f k + g k) = sumN n f + sumN n g := by
  induction n with
  | zero => rfl
  | succ n ih => rw [sumN_s, sumN_s, sumN_s, ih]; omega
theorem layR_at (z wy : ZZ) (r n j : Nat) : itN n (layS z r) wy j = if 12 * r ≤ j ∧ j < 12 * r + n then nI (ways z r (j - 12 * r)) else wy j := by
  induction n with
  | zero => rw [if_neg (by omega)]; rfl
  | succ n ih =>
    rw [itN_s]
    unfold layS
    by_cases h : j = 12 * r + n
    · subst h
      rw [upd_eq, if_pos (by omega), show 12 * r + n - 12 * r = n by omega]
    · rw [upd_ne h]
      have e : itN n (layS z r) wy j = _ := ih
      unfold layS at e
      rw [e]
      by_cases g : 12 * r ≤ j ∧ j < 12 * r + n
      · rw [if_pos g, if_pos (by omega)]
      · rw [if_neg g, if_neg (by omega)]
theorem layF_at {z : ZZ} (hw : WF z) (wy : ZZ) {r s : Nat} (hr : r < nR z) (hs : s < nS z r) : layF z wy (12 * r + s) = nI (ways z r s) := by
  have h12 := wf_S12 hw hr
  have K : ∀ k, k ≤ nR z → r < k → itN k (layR z) wy (12 * r + s) = nI (ways z r s) := by
    intro k
    induction k with
    | zero => intro _ h; omega
    | succ k ih =>
      intro hk hrk
      rw [itN_s]
      unfold layR
      rw [layR_at]
      have h2 := wf_S12 hw (show k < nR z by omega)
      by_cases g : k = r
      · subst g
        rw [if_pos (by omega), show 12 * k + s - 12 * k = s by omega]
      · rw [if_neg (by omega)]
        exact ih (by omega) (by omega)
  exact K (nR z) (Nat.le_refl _) hr
def sdN (z : ZZ) (r s : Nat) : Nat := if nS z r ≤ 2 * s + 1 then 2 * s + 1 - nS z r else nS z r - (2 * s + 1)
def rkN (z : ZZ) (r s : Nat) : Nat := ((ways z r s * 10 + r) * 12 + sdN z r s) * 12 + s
theorem absI_n {n : Nat} (h : n < 2 ^ 31) : absI (nI n) = nI n := by unfold absI; rw [if_neg (nI_pos h)]
theorem absI_neg {n : Nat} (h0 : 0 < n) (h : n < 2 ^ 31) : absI (-nI n) = nI n := by
  unfold absI
  rw [if_pos, Int32.neg_neg]
  refine Int32.lt_iff_toInt_lt.mpr ?_
  rw [ti_neg (by rw [ti_nI h]; omega), ti_nI h]
  have : (0 : Int32).toInt = 0 := by decide
  omega
theorem absI_side {z : ZZ} (hw : WF z) {r s : Nat} (hr : r < nR z) (hs : s < nS z r) : absI (side z r s) = nI (sdN z r s) := by
  have h12 := wf_S12 hw hr
  unfold side sdN
  rw [pk_sub (show 1 ≤ nS z r by omega)]
  by_cases h : nS z r ≤ 2 * s + 1
  · rw [if_pos h, pk_sub (show nS z r - 1 ≤ 2 * s by omega), absI_n (by omega)]
    congr 1; omega
  · rw [if_neg h]
    have e : nI (2 * s) - nI (nS z r - 1) = -nI (nS z r - 1 - 2 * s) := by
      rw [← pk_sub (show 2 * s ≤ nS z r - 1 by omega), Int32.neg_sub]
    rw [e, absI_neg (by omega) (by omega)]
    congr 1; omega
theorem nsub_0 {a b : Nat} (ha : a < 2 ^ 30) (hb : b < 2 ^ 30) : nI a - nI b = 0 ↔ a = b := by
  constructor
  · intro h
    have h1 := pk_sub_toInt ha hb
    rw [h] at h1
    have : (0 : Int32).toInt = 0 := by decide
    omega
  · rintro rfl
    rw [pk_sub (Nat.le_refl _), Nat.sub_self]; rfl
theorem nsub_p {a b : Nat} (ha : a < 2 ^ 30) (hb : b < 2 ^ 30) : 0 < nI a - nI b ↔ b < a := by
  rw [Int32.lt_iff_toInt_lt, pk_sub_toInt ha hb]
  have : (0 : Int32).toInt = 0 := by decide
  omega
theorem ahead_rk {z : ZZ} (hw : WF z) {wy : ZZ} {r s r2 s2 : Nat} (hr : r < nR z) (hs : s < nS z r) (hr2 : r2 < nR z) (hs2 : s2 < nS z r2) : isAheadB z (layF z wy) r s r2 s2 = decide (rkN z r s < rkN z r2 s2) := by
  have a1 := wf_S12 hw hr
  have a2 := wf_S12 hw hr2
  have hR := wf_R10 hw
  have b1 := ways_b hw hr s
  have b2 := ways_b hw hr2 s2
  unfold isAheadB
  rw [layF_at hw wy hr hs, layF_at hw wy hr2 hs2]
  have c1 : sdN z r s < 12 := by unfold sdN; split <;> omega
  have c2 : sdN z r2 s2 < 12 := by unfold sdN; split <;> omega
  have e0 := nsub_0 (a := ways z r2 s2) (b := ways z r s) (by omega) (by omega)
  have ep := nsub_p (a := ways z r2 s2) (b := ways z r s) (by omega) (by omega)
  by_cases h : nI (ways z r2 s2) - nI (ways z r s) = 0 ∧ r = r2
  · obtain ⟨h1, rfl⟩ := h
    have hw2 : ways z r s2 = ways z r s := e0.mp h1
    rw [if_pos ⟨h1, rfl⟩, absI_side hw hr hs, absI_side hw hr hs2]
    have f0 := nsub_0 (a := sdN z r s2) (b := sdN z r s) (by omega) (by omega)
    have fp := nsub_p (a := sdN z r s2) (b := sdN z r s) (by omega) (by omega)
    unfold rkN
    rw [hw2]
    by_cases g : 0 < nI (sdN z r s2) - nI (sdN z r s)
    · rw [if_pos g]
      have := fp.mp g
      exact (decide_eq_true (by omega)).symm
    · rw [if_neg g]
      have g' : ¬ sdN z r s < sdN z r s2 := fun q => g (fp.mpr q)
      by_cases k : nI (sdN z r s2) - nI (sdN z r s) = 0
      · have k' := f0.mp k
        rw [decide_eq_true k, Bool.true_and]
        congr 1; apply propext; omega
      · have k' : ¬ sdN z r s2 = sdN z r s := fun q => k (f0.mpr q)
        rw [decide_eq_false k, Bool.false_and]
        exact (decide_eq_false (by omega)).symm
  · rw [if_neg h]
    have h' : ¬ (ways z r2 s2 = ways z r s ∧ r = r2) := fun q => h ⟨e0.mpr q.1, q.2⟩
    unfold rkN
    by_cases g : 0 < nI (ways z r2 s2) - nI (ways z r s)
    · rw [if_pos g]
      have := ep.mp g
      exact (decide_eq_true (by omega)).symm
    · rw [if_neg g]
      have g' : ¬ ways z r s < ways z r2 s2 := fun q => g (ep.mpr q)
      by_cases k : nI (ways z r2 s2) - nI (ways z r s) = 0
      · have k' := e0.mp k
        rw [decide_eq_true k, Bool.true_and]
        congr 1; apply propext; omega
      · have k' : ¬ ways z r2 s2 = ways z r s := fun q => k (e0.mpr q)
        rw [decide_eq_false k, Bool.false_and]
        exact (decide_eq_false (by omega)).symm
def plcR (z : ZZ) (r s : Nat) (t : Bool) (o : Nat) : Nat := sumN (nS z o) fun k => b2 ((!t || !tk z o k) && decide (rkN z o k < rkN z r s))
def plc (z : ZZ) (r s : Nat) (t : Bool) : Nat := sumN (nR z) fun o => plcR z r s t o
theorem sAh_plc {z : ZZ} (hw : WF z) (wy : ZZ) {r s : Nat} (hr : r < nR z) (hs : s < nS z r) (t : Bool) : sAh z (layF z wy) r s t = plc z r s t := by
  unfold sAh plc
  refine sumN_c fun o ho => ?_
  unfold sAhR plcR
  refine sumN_c fun k hk => ?_
  rw [ahead_rk hw ho hk hr hs]
def bwS (z : ZZ) (pl : Int32) (r w : Nat) (x : Int32) : Int32 := if (!tk z r w && decide (nI (plc z r w true) = pl)) = true then nI (100 * r + w) else x
def bestW (z : ZZ) (pl : Int32) : Int32 := itN (nR z) (fun r x => itN (nS z r) (bwS z pl r) x) (-1)
theorem best_W {z : ZZ} (hw : WF z) (wy : ZZ) (pl : Int32) : bestI z (layF z wy) pl = bestW z pl := by
  unfold bestI bestW
  refine itN_c fun r x hr => ?_
  unfold bsR
  refine itN_c fun w y hs => ?_
  unfold bsS bwS
  rw [sAh_plc hw wy hr hs]
theorem rk_inj {z : ZZ} (hw : WF z) {r s r2 s2 : Nat} (hr : r < nR z) (hs : s < nS z r) (hr2 : r2 < nR z) (hs2 : s2 < nS z r2) (h : rkN z r s = rkN z r2 s2) : r = r2 ∧ s = s2 := by
  have a1 := wf_S12 hw hr
  have a2 := wf_S12 hw hr2
  have hR := wf_R10 hw
  have c1 : sdN z r s < 12 := by unfold sdN; split <;> omega
  have c2 : sdN z r2 s2 < 12 := by unfold sdN; split <;> omega
  unfold rkN at h
  omega
theorem plc_lt {z : ZZ} {r s r2 s2 : Nat} (hr : r < nR z) (hs : s < nS z r) (hf : tk z r s = false) (h : rkN z r s < rkN z r2 s2) : plc z r s true < plc z r2 s2 true := by
  have A : ∀ o k, b2 ((!true || !tk z o k) && decide (rkN z o k < rkN z r s)) ≤ b2 ((!true || !tk z o k) && decide (rkN z o k < rkN z r2 s2)) := by
    intro o k
    by_cases g : rkN z o k < rkN z r s
    · rw [decide_eq_true g, decide_eq_true (show rkN z o k < rkN z r2 s2 by omega)]; exact Nat.le_refl _
    · rw [decide_eq_false g, Bool.and_false]; exact Nat.zero_le _
  unfold plc
  refine sumN_lt (fun o _ => ?_) hr ?_
  · unfold plcR; exact sumN_le fun k _ => A o k
  · unfold plcR
    refine sumN_lt (fun k _ => A r k) hs ?_
    rw [hf, decide_eq_false (Nat.lt_irrefl _), decide_eq_true h]; decide
theorem plc_b {z : ZZ} (hw : WF z) (r s : Nat) (t : Bool) : plc z r s t ≤ 120 := by
  have hR := wf_R10 hw
  have h : plc z r s t ≤ nR z * 12 := sumN_b fun o ho => by
    have h2 := wf_S12 hw ho
    have h3 : plcR z r s t o ≤ nS z o * 1 := sumN_b fun w _ => b2_b _
    omega
  omega
theorem it_last {P : Nat → Prop} {n : Nat} {f : Nat → Int32 → Int32} {x v : Int32} (hx : ∀ k y, k < n → ¬ P k → f k y = y) (hv : ∀ k y, k < n → P k → f k y = v) (h : x = v ∨ ∃ k, k < n ∧ P k) : itN n f x = v := by
  induction n with
  | zero => rcases h with h | ⟨k, hk, -⟩
            · exact h
            · omega
  | succ n ih =>
    rw [itN_s]
    by_cases hP : P n
    · exact hv n _ (by omega) hP
    · rw [hx n _ (by omega) hP]
      refine ih (fun k y hk => hx k y (by omega)) (fun k y hk => hv k y (by omega)) ?_
      rcases h with h | ⟨k, hk, hPk⟩
      · exact Or.inl h
      · refine Or.inr ⟨k, ?_, hPk⟩
        rcases Nat.lt_or_ge k n with q | q
        · exact q
        · obtain rfl : k = n := by omega
          exact absurd hPk hP
theorem best_found {z : ZZ} (hw : WF z) {pl : Int32} {r s : Nat} (hr : r < nR z) (hs : s < nS z r) (hf : tk z r s = false) (hp : nI (plc z r s true) = pl) : bestW z pl = nI (100 * r + s) := by
  have U : ∀ o k, o < nR z → k < nS z o → tk z o k = false → nI (plc z o k true) = pl → o = r ∧ k = s := by
    intro o k ho hk hfk hpk
    have h1 : plc z o k true = plc z r s true := (nI_eq (by have := plc_b hw o k true; omega) (by have := plc_b hw r s true; omega)).mp (hpk.trans hp.symm)
    rcases Nat.lt_trichotomy (rkN z o k) (rkN z r s) with g | g | g
    · have := plc_lt ho hk hfk g; omega
    · exact rk_inj hw ho hk hr hs g
    · have := plc_lt hr hs hf g; omega
  unfold bestW
  refine it_last (P := fun k => k = r) (fun k y hk hP => ?_) (fun k y hk hP => ?_) (Or.inr ⟨r, hr, rfl⟩)
  · have : ∀ n, n ≤ nS z k → itN n (bwS z pl k) y = y := by
      intro n
      induction n with
      | zero => intro _; rfl
      | succ n ih =>
        intro hn
        rw [itN_s, ih (by omega)]
        unfold bwS
        rw [if_neg]
        intro q
        rw [Bool.and_eq_true, Bool.not_eq_true', decide_eq_true_eq] at q
        exact hP (U k n hk (by omega) q.1 q.2).1
    exact this _ (Nat.le_refl _)
  · subst hP
    refine it_last (P := fun w => w = s) (fun w y hw2 hP2 => ?_) (fun w y hw2 hP2 => ?_) (Or.inr ⟨s, hs, rfl⟩)
    · unfold bwS
      rw [if_neg]
      intro q
      rw [Bool.and_eq_true, Bool.not_eq_true', decide_eq_true_eq] at q
      exact hP2 (U k w hk hw2 q.1 q.2).2
    · subst hP2
      unfold bwS
      rw [if_pos]
      rw [Bool.and_eq_true, Bool.not_eq_true', decide_eq_true_eq]
      exact ⟨hf, hp⟩
theorem best_none {z : ZZ} {pl : Int32} (h : ∀ r s, r < nR z → s < nS z r → (!tk z r s && decide (nI (plc z r s true) = pl)) = false) : bestW z pl = -1 := by
  unfold bestW
  have : ∀ n, n ≤ nR z → itN n (fun r x => itN (nS z r) (bwS z pl r) x) (-1) = -1 := by
    intro n
    induction n with
    | zero => intro _; rfl
    | succ n ih =>
      intro hn
      rw [itN_s, ih (by omega)]
      have : ∀ k, k ≤ nS z n → itN k (bwS z pl n) (-1) = -1 := by
        intro k
        induction k with
        | zero => intro _; rfl
        | succ k ih2 =>
          intro hk
          rw [itN_s, ih2 (by omega)]
          unfold bwS
          rw [h n k (by omega) (by omega)]; rfl
      exact this _ (Nat.le_refl _)
  exact this _ (Nat.le_refl _)
