/-! who is in the way; the worst column; a party's place -/
theorem it_stop {α : Type} {n : Nat} {f : Nat → α → α} {x v : α} {k : Nat} (hk : k < n) (h : ∀ y, f k y = v) (h2 : ∀ j y, k < j → j < n → f j y = y) : itN n f x = v := by
  induction n with
  | zero => omega
  | succ n ih =>
    rw [itN_s]
    rcases Nat.lt_or_ge k n with q | q
    · rw [ih q (fun j y a b => h2 j y a (by omega))]; exact h2 n _ q (by omega)
    · obtain rfl : k = n := by omega
      exact h _
theorem it_id {α : Type} {n : Nat} {f : Nat → α → α} {x : α} (h : ∀ j y, j < n → f j y = y) : itN n f x = x := by
  induction n with
  | zero => rfl
  | succ n ih => rw [itN_s, ih (fun j y a => h j y (by omega))]; exact h n _ (by omega)
def inWayB (z : ZZ) (r s a w : Nat) : Bool := tk z a w && blk z a w r s
theorem bkR_id {z : ZZ} {r s a : Nat} (h : ∀ w, w < nS z a → inWayB z r s a w = false) (x : Int32) : bkR z r s a x = x := by
  unfold bkR
  refine it_id fun j y hj => ?_
  unfold bkS
  have := h (nS z a - 1 - j) (by omega)
  unfold inWayB at this
  rw [this]; rfl
theorem bk_found {z : ZZ} {r s a w : Nat} (ha : a < r) (hw : w < nS z a) (hp : inWayB z r s a w = true) (h1 : ∀ k, k < w → inWayB z r s a k = false) (h2 : ∀ o k, a < o → o < r → k < nS z o → inWayB z r s o k = false) : blockerI z r s = nI (100 * a + w) := by
  unfold blockerI
  refine it_stop ha (fun y => ?_) (fun o y q1 q2 => bkR_id (fun k hk => h2 o k q1 q2 hk) y)
  unfold bkR
  refine it_stop (k := nS z a - 1 - w) (by omega) (fun y => ?_) (fun j y q1 q2 => ?_)
  · unfold bkS
    rw [show nS z a - 1 - (nS z a - 1 - w) = w by omega]
    unfold inWayB at hp
    rw [if_pos hp]
  · unfold bkS
    have := h1 (nS z a - 1 - j) (by omega)
    unfold inWayB at this
    rw [this]; rfl
theorem bk_none {z : ZZ} {r s : Nat} (h : ∀ o k, o < r → k < nS z o → inWayB z r s o k = false) : blockerI z r s = -1 := by
  unfold blockerI
  exact it_id fun o y ho => bkR_id (fun k hk => h o k ho hk) y
theorem colsN_W {z : ZZ} (hw : WF z) (r s : Nat) : colsN z r s = colsW z r s (-1) := by
  unfold colsN colsW
  refine sumN_c fun k hk => ?_
  have := wf_C4 hw
  rw [decide_eq_false (nI_ne_m1 (show k < 2 ^ 31 by omega))]; rfl
def keptR (z : ZZ) (c r : Nat) : Nat := sumN (nS z r) fun w => b2 (decide (ways z r w = 1) && cblk z c r w)
def kept (z : ZZ) (c : Nat) : Nat := sumN (nR z) fun r => keptR z c r
theorem sum_del {n c : Nat} {f : Nat → Nat} (hc : c < n) : sumN n f = sumN n (fun k => if k = c then 0 else f k) + f c := by
  induction n with
  | zero => omega
  | succ n ih =>
    rw [sumN_s, sumN_s]
    rcases Nat.lt_or_ge c n with q | q
    · rw [ih q, if_neg (show ¬ n = c by omega)]; omega
    · obtain rfl : c = n := by omega
      rw [if_pos rfl]
      have : sumN c f = sumN c (fun k => if k = c then 0 else f k) := sumN_c fun k hk => by rw [if_neg (by omega)]
      omega
theorem cols_del {z : ZZ} (hw : WF z) (r s : Nat) {c : Nat} (hc : c < nC z) : colsW z r s (-1) = colsW z r s (nI c) + b2 (cblk z c r s) := by
  have h4 := wf_C4 hw
  rw [← colsN_W hw]
  unfold colsN
  rw [sum_del hc]
  congr 1
  unfold colsW
  refine sumN_c fun k hk => ?_
  by_cases h : k = c
  · subst h; rw [if_pos rfl, decide_eq_true rfl]; rfl
  · rw [if_neg h, decide_eq_false (fun q => h ((nI_eq (show k < 2 ^ 31 by omega) (show c < 2 ^ 31 by omega)).mp q))]; rfl
theorem seeWo_kept {z : ZZ} (hw : WF z) {c : Nat} (hc : c < nC z) : seeWo z (nI c) = seeing z false + kept z c := by
  unfold seeWo seeing kept
  rw [← sumN_add]
  refine sumN_c fun r hr => ?_
  unfold seeWoR seeIn keptR
  rw [← sumN_add]
  refine sumN_c fun w hs => ?_
  have h := cols_del hw r w hc
  unfold seesB ways
  rw [h]
  generalize people z r w = P
  generalize colsW z r w (nI c) = C
  cases cblk z c r w with
  | true =>
    have e : b2 true = 1 := rfl
    rw [e, Bool.and_true]
    by_cases q : P + C = 0
    · rw [decide_eq_true q, decide_eq_false (show ¬ P + (C + 1) = 0 by omega), decide_eq_true (show P + (C + 1) = 1 by omega)]; rfl
    · rw [decide_eq_false q, decide_eq_false (show ¬ P + (C + 1) = 0 by omega), decide_eq_false (show ¬ P + (C + 1) = 1 by omega)]; rfl
  | false =>
    have e : b2 false = 0 := rfl
    rw [e, Bool.and_false, Nat.add_zero]
    by_cases q : P + C = 0
    · rw [decide_eq_true q]; rfl
    · rw [decide_eq_false q]; rfl
def ctS (z : ZZ) (k : Nat) (p : Int32 × Int32) : Int32 × Int32 := if p.1 = -1 then (nI k, nI (kept z k)) else if nI (kept z k) ≤ p.2 then p else (nI k, nI (kept z k))
theorem kept_b {z : ZZ} (hw : WF z) (c : Nat) : kept z c ≤ 120 := by
  have hR := wf_R10 hw
  have h : kept z c ≤ nR z * 12 := sumN_b fun o ho => by
    have h2 := wf_S12 hw ho
    have h3 : keptR z c o ≤ nS z o * 1 := sumN_b fun w _ => b2_b _
    omega
  omega
theorem wo_ct {z : ZZ} (hw : WF z) {k : Nat} (hk : k ≤ nC z) : (k = 0 ∧ itN k (woS z) (-1, -1) = (-1, -1) ∧ itN k (ctS z) (-1, nI 0) = (-1, nI 0)) ∨ ∃ j M, j < 2 ^ 31 ∧ M ≤ 120 ∧ itN k (woS z) (-1, -1) = (nI j, nI (seeing z false + M)) ∧ itN k (ctS z) (-1, nI 0) = (nI j, nI M) := by
  have hsb := seeing_b hw false
  have hC := wf_C4 hw
  induction k with
  | zero => exact Or.inl ⟨rfl, rfl, rfl⟩
  | succ k ih =>
    have hkb := kept_b hw k
    have e := seeWo_kept hw (show k < nC z by omega)
    rw [itN_s, itN_s]
    rcases ih (by omega) with ⟨-, h1, h2⟩ | ⟨j, M, hj, hM, h1, h2⟩
    · refine Or.inr ⟨k, kept z k, by omega, hkb, ?_, ?_⟩
      · rw [h1]; unfold woS
        rw [if_neg, e]
        intro q
        have h3 := Int32.le_iff_toInt_le.mp q
        rw [e, ti_nI (by omega)] at h3
        have : (-1 : Int32).toInt = -1 := by decide
        simp only at h3
        omega
      · rw [h2]; unfold ctS; rw [if_pos rfl]
    · rw [h1, h2]
      unfold woS ctS
      simp only
      rw [if_neg (nI_ne_m1 hj), e]
      by_cases g : kept z k ≤ M
      · rw [if_pos ((nI_leI (by omega) (by omega)).mpr (by omega)), if_pos ((nI_leI (by omega) (by omega)).mpr g)]
        exact Or.inr ⟨j, M, hj, hM, rfl, rfl⟩
      · rw [if_neg (fun q => g (by have := (nI_leI (by omega) (by omega)).mp q; omega)), if_neg (fun q => g ((nI_leI (by omega) (by omega)).mp q))]
        exact Or.inr ⟨k, kept z k, by omega, hkb, rfl, rfl⟩
theorem worst_ct {z : ZZ} (hw : WF z) : (itN (nC z) (ctS z) (-1, nI 0)).1 = worstI z := by
  unfold worstI
  rcases wo_ct hw (Nat.le_refl _) with ⟨-, h1, h2⟩ | ⟨j, M, -, -, h1, h2⟩
  · rw [h1, h2]
  · rw [h1, h2]
def pcS (z : ZZ) (m r f : Nat) (p : Int32 × Int32) : Int32 × Int32 := if freeB z r f m = false then p else if p.1 = -1 then (nI (100 * r + f), nI (sumN m fun j => ways z r (f + j))) else if p.2 ≤ nI (sumN m fun j => ways z r (f + j)) then p else (nI (100 * r + f), nI (sumN m fun j => ways z r (f + j)))
theorem pc_pf {z : ZZ} (hw : WF z) {m r f : Nat} (hr : r < nR z) (hf : f + m ≤ nS z r) (p : Int32 × Int32) : pcS z m r f p = pfS z m r f p := by
  have h12 := wf_S12 hw hr
  unfold pcS pfS
  rw [freeB_all z r f (show f + m ≤ 12 by omega)]
  unfold inWayOfI
  cases h : allN m (fun j => !tk z r (f + j)) with
  | false => rw [if_pos rfl, if_neg (show ¬ (false = true) by decide), if_pos rfl]
  | true =>
    have hb : sumN m (fun j => ways z r (f + j)) ≤ m * 124 := sumN_b fun j _ => ways_b hw hr (f + j)
    rw [if_neg (by decide), if_pos rfl, if_neg (nI_ne_m1 (by omega))]
def pcR (z : ZZ) (m r : Nat) (p : Int32 × Int32) : Int32 × Int32 := itN (nS z r + 1 - m) (pcS z m r) p
theorem place_pc {z : ZZ} (hw : WF z) {m : Nat} (hm : 1 ≤ m) : (itN (nR z) (pcR z m) (-1, nI 0)).1 = placeForI z m := by
  unfold placeForI
  congr 1
  refine itN_c fun r p hr => ?_
  unfold pcR pfR
  refine itN_c fun f q hf => ?_
  exact pc_pf hw hr (by omega) q
