/-! what every mutator keeps -/
theorem bt_n {n t : Nat} (h : t < 2 ^ n) {i : Nat} (hi : n ≤ i) : bt (nI t) i = false := by
  show (BitVec.ofNat 32 t).getLsbD i = false
  rw [BitVec.getLsbD_ofNat, Nat.testBit_lt_two_pow (Nat.lt_of_lt_of_le h (Nat.pow_le_pow_right (by omega) hi)), Bool.and_false]
theorem vt_bt {n : Nat} {x : Int32} (h : ∀ i, i < 32 → n ≤ i → bt x i = false) : ∃ t, t < 2 ^ n ∧ x = nI t := by
  refine ⟨x.toBitVec.toNat, Nat.lt_pow_two_of_testBit _ (fun i hi => ?_), ?_⟩
  · rw [BitVec.testBit_toNat]
    rcases Nat.lt_or_ge i 32 with q | q
    · exact h i q hi
    · exact BitVec.getLsbD_of_ge _ _ q
  · refine Int32.toBitVec_inj.mp ?_
    show x.toBitVec = BitVec.ofNat 32 _
    rw [BitVec.ofNat_toNat, BitVec.setWidth_eq]
def BT (z : ZZ) : Prop := ∀ r, r < nR z → ∀ i, i < 32 → nS z r ≤ i → bt (z (5 + 4 * r + 3)) i = false
theorem vt_of {z : ZZ} (h : BT z) : VT z := fun r hr => vt_bt (h r hr)
theorem vt_to {z : ZZ} (h : VT z) : BT z := fun r hr i _ hn => by
  obtain ⟨t, ht, e⟩ := h r hr
  rw [e]; exact bt_n ht hn
theorem upd3 {z : ZZ} {r : Nat} {v : Int32} {j : Nat} (h : j ≠ 5 + 4 * r + 3) : upd z (5 + 4 * r + 3) v j = z j := upd_ne h
theorem val_upd3 {z : ZZ} (h : VAL z) {r : Nat} {v : Int32} (hb : ∀ i, i < 32 → nS z r ≤ i → bt v i = false) : VAL (upd z (5 + 4 * r + 3) v) := by
  obtain ⟨h1, h2, h3, h4, h5⟩ := h
  have e3 : nR (upd z (5 + 4 * r + 3) v) = nR z := nR_upd (by omega)
  have eS : ∀ q, nS (upd z (5 + 4 * r + 3) v) q = nS z q := fun q => by unfold nS; rw [upd3 (by omega)]
  refine ⟨wf_upd h1 (by omega) (by omega) (fun q _ => by omega), fun a q ha hq => ?_, vt_of (fun q hq i hi hn => ?_), fun q hq => ?_, ?_⟩
  · rw [e3] at hq
    rw [upd3 (by omega), upd3 (by omega)]; exact h2 a q ha hq
  · rw [e3] at hq
    rw [eS] at hn
    by_cases g : q = r
    · subst g; rw [upd_eq]; exact hb i hi hn
    · rw [upd3 (by omega)]; exact vt_to h3 q hq i hi hn
  · rw [e3] at hq
    rw [upd3 (by omega), upd3 (by omega), eS]; exact h4 q hq
  · rw [upd3 (by omega), upd3 (by omega), upd3 (by omega)]; exact h5
theorem val_occ {z : ZZ} (h : VAL z) {r f m : Nat} (hr : r < nR z) (hm : f + m ≤ nS z r) : VAL (occZ z r f m) := by
  have hS := wf_S12 h.1 hr
  refine val_upd3 h (fun i hi hn => ?_)
  rw [b_or, vt_to h.2.2.1 r hr i hi hn, bitsI_bt (by omega) (by omega) hi, decide_eq_false (by omega)]; rfl
theorem val_vac {z : ZZ} (h : VAL z) {r f : Nat} (hr : r < nR z) : VAL (vacZ z r f) := by
  refine val_upd3 h (fun i hi hn => ?_)
  rw [b_and, vt_to h.2.2.1 r hr i hi hn]; rfl
theorem val_map {z z' : ZZ} (hv : VAL z) (g : Nat → Nat) {n k : Nat} (hR3 : z' 3 = nI n) (hn : n ≤ 10) (hg : ∀ r, r < n → g r < nR z) (hmono : ∀ a r, a < r → r < n → g a < g r)
    (hrow : ∀ r, r < n → ∀ w, w < 3 → z' (5 + 4 * r + w) = z (5 + 4 * g r + w)) (hbits : ∀ r, r < n → z' (5 + 4 * r + 3) = z (5 + 4 * g r + 3) ∨ z' (5 + 4 * r + 3) = nI 0) (h4 : z' 4 = nI k) (hk : k ≤ 4) (hs : z' 0 = z 0 ∧ z' 1 = z 1 ∧ z' 2 = z 2) : VAL z' := by
  have eR : nR z' = n := by
    show (z' 3).toNatClampNeg = n
    rw [hR3, nI_clamp (by omega)]
  have eC : nC z' = k := by
    show (z' 4).toNatClampNeg = k
    rw [h4, nI_clamp (by omega)]
  have r0 : ∀ r, r < n → z' (5 + 4 * r) = z (5 + 4 * g r) := fun r hr => hrow r hr 0 (by omega)
  have r1 : ∀ r, r < n → z' (5 + 4 * r + 1) = z (5 + 4 * g r + 1) := fun r hr => hrow r hr 1 (by omega)
  have r2 : ∀ r, r < n → z' (5 + 4 * r + 2) = z (5 + 4 * g r + 2) := fun r hr => hrow r hr 2 (by omega)
  have eS : ∀ r, r < n → nS z' r = nS z (g r) := fun r hr => by unfold nS; rw [r2 r hr]
  obtain ⟨h1, h2, h3, h5, h6⟩ := hv
  refine ⟨⟨by rw [eR, hR3], by omega, by rw [eC, h4], by omega, fun r hr => ?_⟩, fun a r ha hr => ?_, vt_of (fun r hr i hi hn2 => ?_), fun r hr => ?_, ?_⟩
  · rw [eR] at hr
    rw [r2 r hr, eS r hr]; exact h1.2.2.2.2 (g r) (hg r hr)
  · rw [eR] at hr
    rw [r0 a (by omega), r0 r hr]; exact h2 (g a) (g r) (hmono a r ha hr) (hg r hr)
  · rw [eR] at hr
    rw [eS r hr] at hn2
    rcases hbits r hr with e | e
    · rw [e]; exact vt_to h3 (g r) (hg r hr) i hi hn2
    · rw [e]; exact b_0 i
  · rw [eR] at hr
    rw [r0 r hr, r1 r hr, eS r hr]; exact h5 (g r) (hg r hr)
  · rw [hs.1, hs.2.1, hs.2.2]; exact h6
theorem del_3 (z : ZZ) (r : Nat) : delZ z r 3 = nI (nR z - 1) := by unfold delZ delS; rw [if_pos rfl]
theorem del_lo {z : ZZ} {r j : Nat} (h3 : j ≠ 3) (h : j < 5 + 4 * r) : delZ z r j = z j := by unfold delZ delS; rw [if_neg h3, if_neg (by omega)]
theorem del_hi {z : ZZ} {r j : Nat} (h : 5 + 4 * r ≤ j) (h2 : j < 5 + 4 * (nR z - 1)) : delZ z r j = z (j + 4) := by unfold delZ delS; rw [if_neg (by omega), if_pos ⟨h, h2⟩]
theorem val_del {z : ZZ} (h : VAL z) {r : Nat} (hr : r < nR z) : VAL (delZ z r) := by
  have hR := wf_R10 h.1
  have row : ∀ q, q < nR z - 1 → ∀ w, w < 4 → delZ z r (5 + 4 * q + w) = z (5 + 4 * (if q < r then q else q + 1) + w) := by
    intro q hq w hw
    by_cases g : q < r
    · rw [if_pos g, del_lo (by omega) (by omega)]
    · rw [if_neg g, del_hi (by omega) (by omega)]; congr 1; omega
  refine val_map h (fun q => if q < r then q else q + 1) (n := nR z - 1) (k := nC z) (del_3 z r) (by omega) (fun q hq => ?_) (fun a q ha hq => ?_) (fun q hq w hw => row q hq w (by omega)) (fun q hq => Or.inl (row q hq 3 (by omega))) ?_ (wf_C4 h.1) ⟨del_lo (by omega) (by omega), del_lo (by omega) (by omega), del_lo (by omega) (by omega)⟩
  · show (if q < r then q else q + 1) < nR z
    by_cases g : q < r
    · rw [if_pos g]; omega
    · rw [if_neg g]; omega
  · show (if a < r then a else a + 1) < (if q < r then q else q + 1)
    by_cases g1 : a < r <;> by_cases g2 : q < r <;> simp only [g1, g2, if_true, if_false] <;> omega
  · rw [del_lo (by omega) (by omega)]; exact wf_C h.1
theorem val_id {z z' : ZZ} (h : VAL z) {k : Nat} (h4 : z' 4 = nI k) (hk : k ≤ 4) (hsame : ∀ j, j < 45 → j ≠ 4 → z' j = z j) : VAL z' := by
  have hR := wf_R10 h.1
  refine val_map h (fun q => q) (n := nR z) (k := k) ?_ hR (fun q hq => hq) (fun a q ha _ => ha) (fun q hq w hw => hsame _ (by omega) (by omega)) (fun q hq => Or.inl (hsame _ (by omega) (by omega))) h4 hk ⟨hsame _ (by omega) (by omega), hsame _ (by omega) (by omega), hsame _ (by omega) (by omega)⟩
  rw [hsame 3 (by omega) (by omega)]; exact wf_R h.1
theorem val_addC {z : ZZ} (h : VAL z) (hc : nC z < 4) (d s hh : Int32) : VAL (addC z d s hh) := by
  refine val_id h (k := nC z + 1) upd_eq (by omega) (fun j hj h4 => ?_)
  unfold addC
  rw [upd_ne h4, upd_ne (by omega), upd_ne (by omega), upd_ne (by omega)]
theorem val_dlc {z : ZZ} (h : VAL z) {c : Nat} (hc : c < nC z) : VAL (dlcZ z c) := by
  have hC := wf_C4 h.1
  refine val_id h (k := nC z - 1) ?_ (by omega) (fun j hj h4 => ?_)
  · unfold dlcZ dlcS; rw [if_pos rfl]
  · unfold dlcZ dlcS; rw [if_neg h4, if_neg (by omega)]
theorem val_clr {z : ZZ} (h : VAL z) : VAL (clrZ z) := by
  have lo : ∀ j, j < 5 → clrZ z j = z j := fun j hj => by unfold clrZ clrS; rw [if_neg (by omega)]
  refine val_map h (fun q => q) (n := nR z) (k := nC z) ?_ (wf_R10 h.1) (fun q hq => hq) (fun a q ha _ => ha) (fun q hq w hw => ?_) (fun q hq => Or.inr ?_) ?_ (wf_C4 h.1) ⟨lo _ (by omega), lo _ (by omega), lo _ (by omega)⟩
  · rw [lo _ (by omega)]; exact wf_R h.1
  · unfold clrZ clrS; rw [if_neg (by omega)]
  · unfold clrZ clrS; rw [if_pos (by omega)]
  · rw [lo _ (by omega)]; exact wf_C h.1
theorem wt_t {v lo hi : Int32} (h : wthn v lo hi = true) : ¬ v < lo ∧ ¬ hi < v := by
  unfold wthn at h
  rw [Bool.and_eq_true, Bool.not_eq_true', Bool.not_eq_true', decide_eq_false_iff_not, decide_eq_false_iff_not] at h
  exact h
theorem wt_rng {v : Int32} {lo hi : Nat} (hlo : lo < 2 ^ 31) (hhi : hi < 2 ^ 31) (h : wthn v (nI lo) (nI hi) = true) : rng v lo hi := by
  obtain ⟨h1, h2⟩ := wt_t h
  rw [Int32.lt_iff_toInt_lt, nI_toInt hlo] at h1
  rw [Int32.lt_iff_toInt_lt, nI_toInt hhi] at h2
  exact ⟨by omega, by omega⟩
theorem val_set {z : ZZ} (h : VAL z) {q : Nat} (hq : q < 3) {v : Int32} (hv : isValB (nI q) v = true) : VAL (upd z q v) := by
  obtain ⟨h1, h2, h3, h4, h5⟩ := h
  have e3 : nR (upd z q v) = nR z := nR_upd (by omega)
  have eS : ∀ r, nS (upd z q v) r = nS z r := fun r => by unfold nS; rw [upd_ne (by omega)]
  refine ⟨wf_upd h1 (by omega) (by omega) (fun r _ => by omega), fun a r ha hr => ?_, vt_of (fun r hr i hi hn => ?_), fun r hr => ?_, ?_⟩
  · rw [e3] at hr
    rw [upd_ne (by omega), upd_ne (by omega)]; exact h2 a r ha hr
  · rw [e3] at hr
    rw [eS] at hn
    rw [upd_ne (by omega)]; exact vt_to h3 r hr i hi hn
  · rw [e3] at hr
    rw [upd_ne (by omega), upd_ne (by omega), eS]; exact h4 r hr
  · unfold isValB at hv
    rcases (show q = 0 ∨ q = 1 ∨ q = 2 by omega) with rfl | rfl | rfl
    · rw [if_pos (by decide)] at hv
      exact ⟨by rw [upd_eq]; exact wt_rng (lo := 0) (hi := 999) (by omega) (by omega) hv, by rw [upd_ne (by omega)]; exact h5.2.1, by rw [upd_ne (by omega)]; exact h5.2.2⟩
    · rw [if_neg (by decide), if_pos rfl] at hv
      exact ⟨by rw [upd_ne (by omega)]; exact h5.1, by rw [upd_eq]; exact wt_rng (lo := 1) (hi := 300) (by omega) (by omega) hv, by rw [upd_ne (by omega)]; exact h5.2.2⟩
    · rw [if_neg (by decide), if_neg (by decide)] at hv
      exact ⟨by rw [upd_ne (by omega)]; exact h5.1, by rw [upd_ne (by omega)]; exact h5.2.1, by rw [upd_eq]; exact wt_rng (lo := 0) (hi := 100) (by omega) (by omega) hv⟩
/-- where a new row goes -/
theorem insAt_lo (z : ZZ) (d : Int32) {n : Nat} (h : 0 < insAt z d n) : z (5 + 4 * (insAt z d n - 1)) ≤ d := by
  induction n with
  | zero => exact absurd h (Nat.lt_irrefl 0)
  | succ n ih =>
    by_cases g : z (5 + 4 * n) ≤ d
    · have e : insAt z d (n + 1) = n + 1 := if_pos g
      rw [e]; exact g
    · have e : insAt z d (n + 1) = insAt z d n := if_neg g
      rw [e] at h ⊢; exact ih h
theorem insAt_hi (z : ZZ) (d : Int32) {n j : Nat} (h : insAt z d n ≤ j) (hj : j < n) : ¬ z (5 + 4 * j) ≤ d := by
  induction n with
  | zero => omega
  | succ n ih =>
    by_cases g : z (5 + 4 * n) ≤ d
    · have e : insAt z d (n + 1) = n + 1 := if_pos g
      omega
    · have e : insAt z d (n + 1) = insAt z d n := if_neg g
      rw [e] at h
      rcases Nat.lt_or_ge j n with q | q
      · exact ih h q
      · rw [show j = n by omega]; exact g
theorem ins_lt {z : ZZ} {d hh s : Int32} {r w : Nat} (h : nR z < 10) (hr : r < insAt z d (nR z)) (hw : w < 4) : insZ z d hh s (5 + 4 * r + w) = z (5 + 4 * r + w) := by
  have hk := insAt_b z d (nR z)
  unfold insZ; rw [upd_ne (by omega), upd_ne (by omega), upd_ne (by omega), upd_ne (by omega), upd_ne (by omega)]; unfold shZ; rw [if_neg (by omega)]
theorem ins_gt {z : ZZ} {d hh s : Int32} {r w : Nat} (h : nR z < 10) (hr : insAt z d (nR z) ≤ r) (hr2 : r < nR z) (hw : w < 4) : insZ z d hh s (5 + 4 * (r + 1) + w) = z (5 + 4 * r + w) := by
  have hk := insAt_b z d (nR z)
  unfold insZ; rw [upd_ne (by omega), upd_ne (by omega), upd_ne (by omega), upd_ne (by omega), upd_ne (by omega)]; unfold shZ; rw [if_pos (by omega)]; congr 1; omega
theorem ins_at {z : ZZ} {d hh s : Int32} : insZ z d hh s (5 + 4 * insAt z d (nR z)) = d ∧ insZ z d hh s (5 + 4 * insAt z d (nR z) + 1) = hh ∧ insZ z d hh s (5 + 4 * insAt z d (nR z) + 2) = s ∧ insZ z d hh s (5 + 4 * insAt z d (nR z) + 3) = nI 0 := by
  unfold insZ
  refine ⟨?_, ?_, ?_, upd_eq⟩
  · rw [upd_ne (by omega), upd_ne (by omega), upd_ne (by omega)]; exact upd_eq
  · rw [upd_ne (by omega), upd_ne (by omega)]; exact upd_eq
  · rw [upd_ne (by omega)]; exact upd_eq
theorem val_ins {z : ZZ} (h : VAL z) {d hh s : Int32} (hc : canAdd z d = true) (hd : rng d 1 999) (hh9 : rng hh 0 999) (hs : ∃ j : Nat, 1 ≤ j ∧ j ≤ 12 ∧ s = nI j) : VAL (insZ z d hh s) := by
  have h10 := canAdd_lt hc
  have hk := insAt_b z d (nR z)
  have hne : ∀ r, r < nR z → ¬ z (5 + 4 * r) = d := by
    intro r hr e
    unfold canAdd at hc
    rw [Bool.and_eq_true] at hc
    have h1 := allN_at hc.2 hr
    rw [Bool.not_eq_true', decide_eq_false_iff_not] at h1
    exact h1 e
  obtain ⟨j, hj1, hj2, hsj⟩ := hs
  obtain ⟨h1, h2, h3, h4, h5⟩ := h
  have eR := nR_ins h10 d hh s
  have a0 := ins_at (z := z) (d := d) (hh := hh) (s := s)
  have lo : ∀ r, r < insAt z d (nR z) → z (5 + 4 * r) < d := by
    intro r hr
    have e1 := insAt_lo z d (n := nR z) (by omega)
    have e2 : z (5 + 4 * r) ≤ z (5 + 4 * (insAt z d (nR z) - 1)) := by
      rcases Nat.lt_or_ge r (insAt z d (nR z) - 1) with q | q
      · exact Int32.le_of_lt (h2 r _ q (by omega))
      · rw [show r = insAt z d (nR z) - 1 by omega]; exact Int32.le_refl _
    have e3 := hne r (by omega)
    rw [Int32.lt_iff_toInt_lt]
    rw [Int32.le_iff_toInt_le] at e1 e2
    have e4 : (z (5 + 4 * r)).toInt ≠ d.toInt := fun q => e3 (Int32.toInt_inj.mp q)
    omega
  have hi : ∀ r, insAt z d (nR z) ≤ r → r < nR z → d < z (5 + 4 * r) := fun r q1 q2 => Int32.not_le.mp (insAt_hi z d q1 q2)
  have cs : ∀ r, r < nR z + 1 → r < insAt z d (nR z) ∨ r = insAt z d (nR z) ∨ ∃ q, insAt z d (nR z) ≤ q ∧ q < nR z ∧ r = q + 1 := by
    intro r hr
    rcases Nat.lt_trichotomy r (insAt z d (nR z)) with g | g | g
    · exact Or.inl g
    · exact Or.inr (Or.inl g)
    · exact Or.inr (Or.inr ⟨r - 1, by omega, by omega, by omega⟩)
  have l0 : ∀ r, r < insAt z d (nR z) → insZ z d hh s (5 + 4 * r) = z (5 + 4 * r) := fun r hr => ins_lt (w := 0) h10 hr (by omega)
  have g0 : ∀ r, insAt z d (nR z) ≤ r → r < nR z → insZ z d hh s (5 + 4 * (r + 1)) = z (5 + 4 * r) := fun r q1 q2 => ins_gt (w := 0) h10 q1 q2 (by omega)
  have hwf := wf_ins (z := z) h1 h10 (d := d) (hh := hh) (s := s) hj2 hsj
  refine ⟨hwf, fun a r ha hr => ?_, vt_of (fun r hr i hi9 hn => ?_), fun r hr => ?_, ?_⟩
  · rw [eR] at hr
    rcases cs r hr with g | g | ⟨q, g1, g2, rfl⟩
    · rw [l0 a (by omega), l0 r g]; exact h2 a r ha (by omega)
    · rw [l0 a (by omega), g, a0.1]; exact lo a (by omega)
    · rw [g0 q g1 g2]
      rcases cs a (by omega) with k | k | ⟨q2, k1, k2, rfl⟩
      · rw [l0 a k]; exact h2 a q (by omega) g2
      · rw [k, a0.1]; exact hi q g1 g2
      · rw [g0 q2 k1 k2]; exact h2 q2 q (by omega) g2
  · rw [eR] at hr
    rcases cs r hr with g | g | ⟨q, g1, g2, rfl⟩
    · have eN : nS (insZ z d hh s) r = nS z r := by unfold nS; rw [ins_lt h10 g (by omega)]
      rw [eN] at hn
      rw [ins_lt h10 g (by omega)]; exact vt_to h3 r (by omega) i hi9 hn
    · rw [g, a0.2.2.2]; exact b_0 i
    · have eN : nS (insZ z d hh s) (q + 1) = nS z q := by unfold nS; rw [ins_gt h10 g1 g2 (by omega)]
      rw [eN] at hn
      rw [ins_gt h10 g1 g2 (by omega)]; exact vt_to h3 q g2 i hi9 hn
  · rw [eR] at hr
    rcases cs r hr with g | g | ⟨q, g1, g2, rfl⟩
    · have eN : nS (insZ z d hh s) r = nS z r := by unfold nS; rw [ins_lt h10 g (by omega)]
      rw [l0 r g, ins_lt h10 g (by omega), eN]; exact h4 r (by omega)
    · have eN : nS (insZ z d hh s) r = j := by unfold nS; rw [g, a0.2.2.1, hsj, nI_clamp (by omega)]
      rw [eN, g, a0.1, a0.2.1]; exact ⟨hd, hh9, hj1⟩
    · have eN : nS (insZ z d hh s) (q + 1) = nS z q := by unfold nS; rw [ins_gt h10 g1 g2 (by omega)]
      rw [g0 q g1 g2, ins_gt h10 g1 g2 (by omega), eN]; exact h4 q g2
  · rw [ins_hi h10 (Or.inl (by omega)), ins_hi h10 (Or.inl (by omega)), ins_hi h10 (Or.inl (by omega))]; exact h5
theorem isVal_q {q : Nat} (h : q < 3) (v : Int32) : isValB (nI q) v = (!decide (v < lsA q) && !decide (msA q < v)) := by
  rcases (show q = 0 ∨ q = 1 ∨ q = 2 by omega) with rfl | rfl | rfl
  · unfold isValB; rw [if_pos (by decide)]; rfl
  · unfold isValB; rw [if_neg (by decide), if_pos rfl]; rfl
  · unfold isValB; rw [if_neg (by decide), if_neg (by decide)]; rfl
theorem wtq {n : Nat} {v : Int32} {b : Bool} (h : wthn v (nI 0) (nI (n + 1) - nI 1) = b) : wthn v (nI 0) (nI n) = b := by
  rw [show nI (n + 1) - nI 1 = nI n from kx_pm1 (by omega)] at h; exact h
theorem ws_upd {z : ZZ} (h : WS z) {i : Nat} {v : Int32} (h3 : i ≠ 3) (hne : ∀ r, r < nR z → i ≠ 5 + 4 * r) : WS (upd z i v) := by
  intro a r h1 h2
  rw [nR_upd h3] at h2
  rw [upd_ne (Ne.symm (hne a (by omega))), upd_ne (Ne.symm (hne r h2))]
  exact h a r h1 h2
theorem wthn126_out {v : Int32} (h : wthn v (nI 33) (nI 126) = true) : ∃ j, 33 ≤ j ∧ j ≤ 126 ∧ v = nI j := by
  obtain ⟨h1, h2⟩ := wt_rng (lo := 33) (hi := 126) (by omega) (by omega) h
  have h0 : ¬ v < 0 := by
    rw [Int32.lt_iff_toInt_lt, show (0 : Int32).toInt = 0 from by decide]; omega
  obtain ⟨j, hj, rfl⟩ := nI_of h0
  rw [nI_toInt hj] at h1 h2
  exact ⟨j, by omega, by omega, rfl⟩
