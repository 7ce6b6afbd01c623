/-! class and reference read the buffer alike -/
def RR (p : CS) (q : PS) : Prop := p.1 = 3 * q.1 + q.2.1 ∧ q.2.1 < 3 ∧ (p.2.1 = false → q.2.2.1 = -1) ∧ (p.2.1 = true → ∃ v : Nat, v ≤ 999 ∧ q.2.2.1 = nI v ∧ p.2.2 p.1 = nI v ∧ q.2.2.2 p.1 = nI v) ∧ ∀ j, j < p.1 → p.2.2 j = q.2.2.2 j
theorem wt_nI {a b n : Nat} (ha : a < 2 ^ 31) (hb : b < 2 ^ 31) (hn : n < 2 ^ 31) : wthn (nI n) (nI a) (nI b) = decide (a ≤ n ∧ n ≤ b) := by
  unfold wthn
  rw [Bool.eq_iff_iff, decide_eq_true_eq, Bool.and_eq_true, Bool.not_eq_true', Bool.not_eq_true', decide_eq_false_iff_not, decide_eq_false_iff_not, nI_ltI hn ha, nI_ltI hb hn]
  omega
theorem wt_m {n : Nat} (h33 : 33 ≤ n) (h48 : n < 48) : wthn (nI n - nI 48) (nI 0) (nI 9) = false := by
  unfold wthn
  have h1 : (nI n).toInt = n := nI_toInt (by omega)
  have h2 : (nI 48).toInt = 48 := by decide
  have h3 : (nI n - nI 48).toInt = (n : Int) - 48 := by rw [ti_sub (by omega) (by omega), h1, h2]
  have h4 : nI n - nI 48 < nI 0 := by
    rw [Int32.lt_iff_toInt_lt, h3, show (nI 0).toInt = 0 from by decide]; omega
  rw [decide_eq_true h4]; rfl
theorem sgn_ep {pt : Nat} (h : pt < 3) : sgn pt = epA pt := by
  rcases (show pt = 0 ∨ pt = 1 ∨ pt = 2 by omega) with rfl | rfl | rfl <;> rfl
theorem ep_nd {pt : Nat} {n : Nat} (h : pt < 3) (hn : 48 ≤ n ∧ n ≤ 57) : ¬ nI n = epA pt := by
  rcases (show pt = 0 ∨ pt = 1 ∨ pt = 2 by omega) with rfl | rfl | rfl
  · intro q; have := (nI_eq (a := n) (b := 94) (by omega) (by omega)).mp q; omega
  · intro q; have := (nI_eq (a := n) (b := 42) (by omega) (by omega)).mp q; omega
  · intro q; have := (nI_eq (a := n) (b := 59) (by omega) (by omega)).mp q; omega
theorem dg_nI {n : Nat} (hn : n < 2 ^ 31) : isDg (nI n) = decide (48 ≤ n ∧ n ≤ 57) := by
  show wthn (nI n) (nI 48) (nI 57) = _
  exact wt_nI (by omega) (by omega) hn
theorem tdR_n {pt v : Nat} (hp : pt < 3) (hv : v < 2 ^ 31) : tdR pt (nI v) = decide ((if pt = 1 then 0 else 1) ≤ v ∧ v ≤ (if pt = 2 then 12 else 999)) := by
  rcases (show pt = 0 ∨ pt = 1 ∨ pt = 2 by omega) with rfl | rfl | rfl
  · exact wt_nI (a := 1) (b := 999) (by omega) (by omega) hv
  · exact wt_nI (a := 0) (b := 999) (by omega) (by omega) hv
  · exact wt_nI (a := 1) (b := 12) (by omega) (by omega) hv
theorem lp_n {pt v : Nat} (hp : pt < 3) (hv : v < 2 ^ 31) : (nI v < lpA pt) ↔ v < (if pt = 1 then 0 else 1) := by
  rcases (show pt = 0 ∨ pt = 1 ∨ pt = 2 by omega) with rfl | rfl | rfl
  · exact nI_ltI (b := 1) hv (by omega)
  · exact nI_ltI (b := 0) hv (by omega)
  · exact nI_ltI (b := 1) hv (by omega)
theorem mp_n {pt v : Nat} (hp : pt < 3) (hv : v < 2 ^ 31) : (mpA pt < nI v) ↔ (if pt = 2 then 12 else 999) < v := by
  rcases (show pt = 0 ∨ pt = 1 ∨ pt = 2 by omega) with rfl | rfl | rfl
  · exact nI_ltI (a := 999) (by omega) hv
  · exact nI_ltI (a := 999) (by omega) hv
  · exact nI_ltI (a := 12) (by omega) hv
theorem m1_ne {v : Nat} (h : v < 2 ^ 31) : ¬ nI v = -1 := nI_ne_m1 h
theorem rr_step {p : CS} {q : PS} {n : Nat} (h : RR p q) (h33 : 33 ≤ n) (h126 : n ≤ 126) : okP q (nI n) = okC p (nI n) ∧ (okC p (nI n) = true → RR (stepC p (nI n)) (stepP q (nI n))) := by
  obtain ⟨L, b, f⟩ := p
  obtain ⟨rd, pt, nu, pa⟩ := q
  obtain ⟨e1, h3, hb0, hb1, hj⟩ := h
  simp only at e1 h3 hb0 hb1 hj
  have hL : L % 3 = pt := by omega
  have hL2 : 3 * rd + pt = L := e1.symm
  by_cases hd : 48 ≤ n ∧ n ≤ 57
  · -- a digit
    have hdg : isDg (nI n) = true := by rw [dg_nI (by omega)]; exact decide_eq_true hd
    have hsub : nI n - nI 48 = nI (n - 48) := pk_sub (by omega)
    have hsg : isSg (rd, pt, nu, pa) (nI n) = false := by
      show (!decide (nu = -1) && decide (nI n = sgn pt)) = false
      rw [sgn_ep h3, decide_eq_false (ep_nd h3 hd), Bool.and_false]
    have hw9 : wthn (nI (n - 48)) (nI 0) (nI 9) = true := by rw [wt_nI (by omega) (by omega) (by omega)]; exact decide_eq_true (by omega)
    rw [okC_d hdg, stepC_d hdg]
    unfold okP stepP
    rw [hsg, Bool.false_or, if_neg (by simp)]
    show tdB nu pt (nI n - nI 48) = dgOk b f L (nI n - nI 48) ∧ (dgOk b f L (nI n - nI 48) = true → RR (L, true, dgF1 b f L (nI n - nI 48)) (rd, pt, tdNu nu pt (nI n - nI 48), upd pa (3 * rd + pt) (tdNu nu pt (nI n - nI 48))))
    rw [hsub, hL2]
    cases b with
    | false =>
      have hnu := hb0 rfl
      have hnu0 : ¬ nu = 0 := by rw [hnu]; decide
      have e : tdB nu pt (nI (n - 48)) = dgOk false f L (nI (n - 48)) := by
        unfold tdB dgOk tdV
        rw [hw9, decide_eq_false hnu0, if_pos hnu, if_pos rfl, hL, tdR_n h3 (by omega), Bool.eq_iff_iff, Bool.not_eq_true', decide_eq_false_iff_not, lp_n h3 (by omega)]
        simp only [Bool.not_false, Bool.and_true, Bool.true_and, decide_eq_true_eq]
        split <;> split <;> omega
      refine ⟨e, fun ho => ?_⟩
      have hv : tdNu nu pt (nI (n - 48)) = nI (n - 48) := by unfold tdNu tdV; rw [if_pos (e.trans ho), if_pos hnu]
      rw [hv]
      refine ⟨e1, h3, fun h => (by cases h), fun _ => ⟨n - 48, by omega, rfl, ?_, upd_eq⟩, fun j hj9 => ?_⟩
      · show dgF1 false f L _ L = _
        unfold dgF1; rw [if_pos rfl]; exact upd_eq
      · show dgF1 false f L _ j = upd pa L _ j
        unfold dgF1; rw [if_pos rfl]
        have hj8 : j < L := hj9
        rw [upd_ne (by omega), upd_ne (by omega)]; exact hj j hj8
    | true =>
      obtain ⟨v, hv9, hnu, hf, hpa⟩ := hb1 rfl
      have hnm : ¬ nu = -1 := by rw [hnu]; exact m1_ne (by omega)
      have hval : f L * nI 10 + nI (n - 48) = nI (10 * v + (n - 48)) := by rw [hf, pk_mul, nI_add, Nat.mul_comm v 10]
      have hval2 : (nI 10 * nu) + nI (n - 48) = nI (10 * v + (n - 48)) := by rw [hnu, pk_mul, nI_add]
      have e : tdB nu pt (nI (n - 48)) = dgOk true f L (nI (n - 48)) := by
        unfold tdB dgOk tdV
        rw [hw9, if_neg hnm, if_neg (by simp), hL, hval, hval2, tdR_n h3 (by omega), hnu, hf, Bool.true_and, Bool.eq_iff_iff]
        simp only [Bool.and_eq_true, Bool.not_eq_true', decide_eq_true_eq, decide_eq_false_iff_not]
        rw [mp_n h3 (by omega), show ((0 : Int32) = nI 0) from rfl, nI_eq (by omega) (by omega), nI_leI (by omega) (by omega)]
        split <;> split <;> omega
      refine ⟨e, fun ho => ?_⟩
      have hv : tdNu nu pt (nI (n - 48)) = nI (10 * v + (n - 48)) := by unfold tdNu tdV; rw [if_pos (e.trans ho), if_neg hnm]; exact hval2
      have hle : 10 * v + (n - 48) ≤ 999 := by
        have h9 := e.trans ho
        unfold tdB tdV at h9
        rw [if_neg hnm, hval2, tdR_n h3 (by omega), Bool.and_eq_true, decide_eq_true_eq] at h9
        have h8 := h9.2.2
        split at h8 <;> omega
      rw [hv]
      refine ⟨e1, h3, fun h => (by cases h), fun _ => ⟨10 * v + (n - 48), hle, rfl, ?_, upd_eq⟩, fun j hj9 => ?_⟩
      · show dgF1 true f L _ L = _
        unfold dgF1; rw [if_neg (by simp), upd_eq]; exact hval
      · show dgF1 true f L _ j = upd pa L _ j
        unfold dgF1; rw [if_neg (by simp)]
        have hj8 : j < L := hj9
        rw [upd_ne (by omega), upd_ne (by omega)]; exact hj j hj8
  · -- no digit
    have hdg : isDg (nI n) = false := by rw [dg_nI (by omega)]; exact decide_eq_false hd
    have hw9 : wthn (nI n - nI 48) (nI 0) (nI 9) = false := by
      rcases Nat.lt_or_ge n 48 with g | g
      · exact wt_m h33 g
      · rw [show nI n - nI 48 = nI (n - 48) from pk_sub g, wt_nI (by omega) (by omega) (by omega)]; exact decide_eq_false (by omega)
    have htd : tdB nu pt (nI n - nI 48) = false := by unfold tdB; rw [hw9]; rfl
    rw [okC_e hdg, stepC_e hdg]
    unfold okP stepP
    show (isSg (rd, pt, nu, pa) (nI n) || tdB nu pt (nI n - nI 48)) = enOk b L (nI n) ∧ _
    rw [htd, Bool.or_false]
    have e : isSg (rd, pt, nu, pa) (nI n) = enOk b L (nI n) := by
      show (!decide (nu = -1) && decide (nI n = sgn pt)) = (b && decide (nI n = epA (L % 3)))
      rw [hL, sgn_ep h3]
      cases b with
      | false => rw [decide_eq_true (hb0 rfl)]; rfl
      | true =>
        obtain ⟨v, hv9, hnu, -, -⟩ := hb1 rfl
        rw [decide_eq_false (by rw [hnu]; exact m1_ne (by omega))]; rfl
    refine ⟨e, fun ho => ?_⟩
    have ho2 : enOk b L (nI n) = true := ho
    have hbt : b = true := by unfold enOk at ho2; rw [Bool.and_eq_true] at ho2; exact ho2.1
    obtain ⟨v, hv9, hnu, hf, hpa⟩ := hb1 hbt
    rw [if_pos (e.trans ho)]
    simp only [ho2, if_true]
    refine ⟨?_, ?_, fun _ => rfl, fun h => (by cases h), fun j hj9 => ?_⟩
    · show L + 1 = 3 * (if pt = 2 then rd + 1 else rd) + (if pt = 2 then 0 else pt + 1)
      split <;> omega
    · show (if pt = 2 then 0 else pt + 1) < 3
      split <;> omega
    · show f j = pa j
      have hj8 : j < L + 1 := hj9
      rcases Nat.lt_or_ge j L with g | g
      · exact hj j g
      · rw [show j = L by omega, hf, hpa]
/-- the characters are 33 to 126 -/
def TS (ts : ZZ) (n : Nat) : Prop := ∀ j, j < n → ∃ k : Nat, 33 ≤ k ∧ k ≤ 126 ∧ ts j = nI k
theorem rr_run {ts tx f pa : ZZ} {n : Nat} (hT : TS ts n) (hx : ∀ j, j < n → tx j = ts j) {k : Nat} (hk : k ≤ n) : eN tx pa k = eC ts f k ∧ (eC ts f k = k → RR (runC ts f k) (runP tx pa k)) := by
  induction k with
  | zero => exact ⟨rfl, fun _ => ⟨rfl, by show 0 < 3; omega, fun _ => rfl, fun h => (by cases h), fun j hj => absurd hj (Nat.not_lt_zero j)⟩⟩
  | succ k ih =>
    obtain ⟨i1, i2⟩ := ih (by omega)
    obtain ⟨m, m1, m2, m3⟩ := hT k (by omega)
    rw [eN_s, eC_s, hx k (by omega), i1]
    by_cases g : eC ts f k = k
    · obtain ⟨s1, s2⟩ := rr_step (n := m) (i2 g) m1 m2
      rw [m3, s1]
      by_cases g2 : okC (runC ts f k) (nI m) = true
      · rw [if_pos ⟨g, g2⟩]
        refine ⟨rfl, fun _ => ?_⟩
        rw [runC_s, runP_s, hx k (by omega), m3]; exact s2 g2
      · rw [if_neg (fun q => g2 q.2)]
        exact ⟨rfl, fun h => by omega⟩
    · rw [if_neg (fun q => g q.1), if_neg (fun q => g q.1)]
      exact ⟨rfl, fun h => by have := eC_le ts f k; omega⟩
theorem e_CN {ts tx f pa : ZZ} {n : Nat} (hT : TS ts n) (hx : ∀ j, j < n → tx j = ts j) : eN tx pa n = eC ts f n := (rr_run hT hx (Nat.le_refl n)).1
theorem t_all {ts tx f pa : ZZ} {n : Nat} (hT : TS ts n) (hx : ∀ j, j < n → tx j = ts j) : tAll tx pa n = (if cmpB ts f n = true then 0 else 1) := by
  have h1 := e_CN (f := f) (pa := pa) hT hx
  unfold tAll cmpB
  by_cases g : eC ts f n = n
  · obtain ⟨a1, a2, a3, a4, a5⟩ := (rr_run (f := f) (pa := pa) hT hx (Nat.le_refl n)).2 g
    rw [if_pos (h1.trans g), decide_eq_true g, finP_a (h1.trans g), finC_a g, Bool.true_and]
    by_cases g2 : (runP tx pa n).2.1 = 2
    · rw [if_pos g2, decide_eq_true (show (runC ts f n).1 % 3 = 2 by omega), Bool.and_true]
      cases hb : (runC ts f n).2.1 with
      | false => rw [if_pos (a3 hb)]; rfl
      | true =>
        obtain ⟨v, v1, v2, -, -⟩ := a4 hb
        rw [if_neg (by rw [v2]; exact m1_ne (by omega))]; rfl
    · rw [if_neg g2, decide_eq_false (show ¬ (runC ts f n).1 % 3 = 2 by omega), Bool.and_false]; rfl
  · rw [if_neg (fun q => g (h1.symm.trans q)), decide_eq_false g]; rfl
theorem fin_rr {ts tx f pa : ZZ} {n : Nat} (hT : TS ts n) (hx : ∀ j, j < n → tx j = ts j) (hc : cmpB ts f n = true) : (finC ts f n).1 = 3 * (finP tx pa n).1 + 2 ∧ (∀ j, j ≤ (finC ts f n).1 → (finC ts f n).2.2 j = (finP tx pa n).2.2.2 j) := by
  have h1 := e_CN (f := f) (pa := pa) hT hx
  unfold cmpB at hc
  rw [Bool.and_eq_true, Bool.and_eq_true, decide_eq_true_eq, decide_eq_true_eq] at hc
  obtain ⟨g, hb, hm⟩ := hc
  obtain ⟨a1, a2, a3, a4, a5⟩ := (rr_run (f := f) (pa := pa) hT hx (Nat.le_refl n)).2 g
  rw [finC_a g] at hb hm ⊢
  rw [finP_a (h1.trans g)]
  obtain ⟨v, v1, v2, v3, v4⟩ := a4 hb
  refine ⟨by omega, fun j hj => ?_⟩
  rcases Nat.lt_or_ge j (runC ts f n).1 with q | q
  · exact a5 j q
  · rw [show j = (runC ts f n).1 by omega, v3, v4]
theorem fin_hok {ts f : ZZ} {n : Nat} (hT : TS ts n) (hn : n ≤ 60) : cmpB ts f n = true → (finC ts f n).1 < 60 ∧ ∀ i q, q < 3 → i ≤ (finC ts f n).1 / 3 → okN q ((finC ts f n).2.2 (3 * i + q)) := by
  intro hc
  obtain ⟨a1, a2⟩ := fin_rr (f := f) (pa := f) (tx := ts) hT (fun _ _ => rfl) hc
  have ht : tAll ts f n = 0 := by rw [t_all (f := f) hT (fun _ _ => rfl), if_pos hc]
  obtain ⟨-, -, b3, b4⟩ := fin_ok ht
  refine ⟨by omega, fun i q hq hi => ?_⟩
  rw [a2 _ (by omega)]
  exact b4 i q hq (by omega)
theorem adZ_0 (z pa : ZZ) : adZ z pa 0 = z := rfl
theorem adZ_c {P Q : ZZ} (z : ZZ) {k : Nat} (h : ∀ j, j < 3 * k → P j = Q j) : adZ z P k = adZ z Q k := by
  induction k with
  | zero => rw [adZ_0, adZ_0]
  | succ k ih =>
    have i1 := ih (fun j hj => h j (by omega))
    have e0 := h (3 * k) (by omega)
    have e1 := h (3 * k + 1) (by omega)
    have e2 := h (3 * k + 2) (by omega)
    rw [adZ_s, adZ_s, i1, e0, e1, e2]
theorem adN_c {P Q : ZZ} (z : ZZ) {k : Nat} (h : ∀ j, j < 3 * k → P j = Q j) : adN z P k = adN z Q k := by
  induction k with
  | zero => rfl
  | succ k ih =>
    have i1 := adZ_c z (fun j hj => h j (show j < 3 * (k + 1) by omega)) (k := k)
    have i2 := ih (fun j hj => h j (by omega))
    have e0 := h (3 * k) (by omega)
    rw [adN_s, adN_s, i2, i1, e0]
theorem val_adZ {z : ZZ} (hv : VAL z) {pa : ZZ} {n : Nat} (hp : ∀ i q, q < 3 → i ≤ n → okN q (pa (3 * i + q))) {k : Nat} (hk : k ≤ n + 1) (h : adN z pa k = k) : VAL (adZ z pa k) := by
  induction k with
  | zero => exact hv
  | succ k ih =>
    rw [adN_s] at h
    have h1 := adN_le z pa k
    split at h
    · rename_i g
      rw [adZ_s]
      have o0 := hp k 0 (by decide) (by omega)
      have o1 := hp k 1 (by decide) (by omega)
      have o2 := okN_2 (hp k 2 (by decide) (by omega))
      refine val_ins (ih (by omega) g.1) g.2 ?_ ?_ o2
      · exact wt_rng (lo := 1) (hi := 999) (by omega) (by omega) o0
      · exact wt_rng (lo := 0) (hi := 999) (by omega) (by omega) o1
    · omega
theorem adN_in (z pa : ZZ) (k : Nat) : adN z pa (adN z pa k) = adN z pa k := by
  induction k with
  | zero => rfl
  | succ k ih =>
    by_cases g : adN z pa k = k ∧ canAdd (adZ z pa k) (pa (3 * k)) = true
    · rw [adN_s, if_pos g, adN_s, if_pos g]
    · rw [adN_s, if_neg g]; exact ih
