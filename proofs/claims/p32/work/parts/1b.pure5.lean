/-! the survey's arrays -/
def lkS (g : Nat → Nat → Nat) (r s : Nat) (f : ZZ) : ZZ := upd f (r * 12 + s) (nI (g r s))
def lkR (g : Nat → Nat → Nat) (z : ZZ) (r : Nat) (f : ZZ) : ZZ := itN (nS z r) (lkS g r) f
def lkF (g : Nat → Nat → Nat) (z : ZZ) (f : ZZ) : ZZ := itN (nR z) (lkR g z) f
theorem lkR_at (g : Nat → Nat → Nat) (f : ZZ) (r n j : Nat) : itN n (lkS g r) f j = if r * 12 ≤ j ∧ j < r * 12 + n then nI (g r (j - r * 12)) else f j := by
  induction n with
  | zero => rw [if_neg (by omega)]; rfl
  | succ n ih =>
    rw [itN_s]
    unfold lkS
    by_cases h : j = r * 12 + n
    · subst h
      rw [upd_eq, if_pos (by omega), show r * 12 + n - r * 12 = n by omega]
    · rw [upd_ne h]
      have e : itN n (lkS g r) f j = _ := ih
      unfold lkS at e
      rw [e]
      by_cases q : r * 12 ≤ j ∧ j < r * 12 + n
      · rw [if_pos q, if_pos (by omega)]
      · rw [if_neg q, if_neg (by omega)]
theorem lkF_at {z : ZZ} (hw : WF z) (g : Nat → Nat → Nat) (f : ZZ) {r s : Nat} (hr : r < nR z) (hs : s < nS z r) : lkF g z f (r * 12 + s) = nI (g r s) := by
  have h12 := wf_S12 hw hr
  have K : ∀ k, k ≤ nR z → r < k → itN k (lkR g z) f (r * 12 + s) = nI (g r s) := by
    intro k
    induction k with
    | zero => intro _ h; omega
    | succ k ih =>
      intro hk hrk
      rw [itN_s]
      unfold lkR
      rw [lkR_at]
      have h2 := wf_S12 hw (show k < nR z by omega)
      by_cases q : k = r
      · subst q
        rw [if_pos (by omega), show k * 12 + s - k * 12 = s by omega]
      · rw [if_neg (by omega)]
        exact ih (by omega) (by omega)
  exact K (nR z) (Nat.le_refl _) hr
def LKR (z pe cn rk : ZZ) : Prop := ∀ r s, r < nR z → s < nS z r → pe (r * 12 + s) = nI (people z r s) ∧ cn (r * 12 + s) = nI (colsW z r s (-1)) ∧ rk (r * 12 + s) = nI (rkN z r s)
theorem lkr_F {z : ZZ} (hw : WF z) (pe cn rk : ZZ) : LKR z (lkF (people z) z pe) (lkF (fun r s => colsW z r s (-1)) z cn) (lkF (rkN z) z rk) :=
  fun _ _ hr hs => ⟨lkF_at hw _ _ hr hs, lkF_at hw _ _ hr hs, lkF_at hw _ _ hr hs⟩
theorem rk_b {z : ZZ} (hw : WF z) {r s : Nat} (hr : r < nR z) (hs : s < nS z r) : rkN z r s ≤ 200000 := by
  have a1 := wf_S12 hw hr
  have hR := wf_R10 hw
  have hb := ways_b hw hr s
  have c1 : sdN z r s < 12 := by unfold sdN; split <;> omega
  unfold rkN; omega
def lkP (lk : Bool) (g : Nat → Nat → Nat) (z f : ZZ) : ZZ := if lk = true then f else lkF g z f
theorem lkr_P {z : ZZ} (hw : WF z) {lk : Bool} {pe cn rk : ZZ} (h : lk = true → LKR z pe cn rk) : LKR z (lkP lk (people z) z pe) (lkP lk (fun r s => colsW z r s (-1)) z cn) (lkP lk (rkN z) z rk) := by
  cases lk with
  | true => exact h rfl
  | false => exact lkr_F hw pe cn rk
theorem kx_narb (b : Bool) : narrow .boolean (.int (bI b)) = .int (bI b) := by cases b <;> rfl
theorem kx_fitb (b : Bool) : fits .boolean (.int (bI b)) = true := by cases b <;> rfl
abbrev SVW (v b : Nat → Nat) (cI : ClassId) (z : ZZ) (lk : Int32) (pe cn rk : ZZ) : va_W := HW b cI z ++ SW v (b 0) cI lk pe cn rk
theorem sv_c {v b : Nat → Nat} {cI : ClassId} {z : ZZ} {lk lk' : Int32} {pe pe' cn cn' rk rk' : ZZ} (h1 : lk = lk') (h2 : pe = pe') (h3 : cn = cn') (h4 : rk = rk') : (HW b cI z ++ SW v (b 0) cI lk pe cn rk : va_W) = HW b cI z ++ SW v (b 0) cI lk' pe' cn' rk' := by
  subst h1 h2 h3 h4; rfl
theorem max_le (x y : Int32) : (if x < y then y else x) = (if y ≤ x then x else y) := by
  by_cases h : x < y
  · rw [if_pos h, if_neg (Int32.not_le.mpr h)]
  · rw [if_neg h, if_pos (Int32.not_lt.mp h)]
