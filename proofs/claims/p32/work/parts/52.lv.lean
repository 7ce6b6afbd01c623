/-! what holds between the law's calls: the numbers of the hall, the law's arrays, the survey -/
def LV3 (z : ZZ) (lk : Bool) (pe cn rk : ZZ) (nk : Nat) (nf rf cf : ZZ) : Prop := VAL z ∧ (lk = true → LKR z pe cn rk) ∧ nk ≤ 6 ∧ nR z ≤ 6 ∧ NN z nk nf ∧ RO z rf ∧ CO z cf
def shR (rf : ZZ) (k R w : Nat) : ZZ := fun j => if (4 * (k + 1) ≤ j ∧ j < 4 * (R + 1)) ∨ (4 * k ≤ j ∧ j < 4 * k + w) then rf (j - 4) else rf j
def dlR (rf : ZZ) (r k : Nat) : ZZ := fun j => if 4 * r ≤ j ∧ j < k then rf (j + 4) else rf j
def dlC (cf : ZZ) (c k : Nat) : ZZ := fun j => if 3 * c ≤ j ∧ j < k then cf (j + 3) else cf j
def zrR (rf : ZZ) (k : Nat) : ZZ := fun j => if j < 4 * k ∧ j % 4 = 3 then nI 0 else rf j
theorem rng_nI {n lo hi : Nat} (h1 : lo ≤ n) (h2 : n ≤ hi) (h3 : hi < 2 ^ 31) : rng (nI n) (lo : Int) (hi : Int) := by
  unfold rng; rw [nI_toInt (by omega)]; omega
theorem nK_le {n : Nat} (h : n ≤ 6) : nK n ≤ 6 := by unfold nK; split <;> omega
theorem nK_s {n : Nat} (h : n < 6) : nK n = n + 1 := by unfold nK; rw [if_neg (by omega)]
theorem nK_6 {n : Nat} (h : n = 6) : nK n = n := by unfold nK; rw [if_pos h, h]
theorem nj {X : ZZ} {nk : Nat} (h : X 2 = nI nk) (h6 : ¬ nk < 6) (hn : nk ≤ 6) : X = upd X 2 (nI (nK nk)) := by
  funext j
  unfold upd
  by_cases g : j = 2
  · rw [if_pos g, g, h, nK_6 (by omega)]
  · rw [if_neg g]
theorem lkf {z pe cn rk : ZZ} : false = true → LKR z pe cn rk := fun h => by cases h
section LVS
variable {z nf rf cf : ZZ} {nk : Nat}
/-- a row more -/
theorem lx_add (hV : VAL z) (hn : nk ≤ 6) (hN : NN z nk nf) (hO : RO z rf) (hC : CO z cf) (h5 : nR z < 6) {d hh s k : Nat} (hca : canAdd z (nI d) = true) (hd1 : 1 ≤ d) (hd2 : d ≤ 999) (hh9 : hh ≤ 999) (hs1 : 1 ≤ s) (hs2 : s ≤ 12) (hk : insAt z (nI d) (nR z) = k) (pe cn rk : ZZ) :
    LV3 (insZ z (nI d) (nI hh) (nI s)) false pe cn rk (nK nk) (upd (upd nf 0 (nI (nR z + 1))) 2 (nI (nK nk))) (upd (upd (upd (upd (shR rf k (nR z) 0) (4 * k) (nI d)) (4 * k + 1) (nI hh)) (4 * k + 2) (nI s)) (4 * k + 3) (nI 0)) cf := by
  have h10 : nR z < 10 := by omega
  have eR := nR_ins h10 (nI d) (nI hh) (nI s)
  have eC : nC (insZ z (nI d) (nI hh) (nI s)) = nC z := by unfold nC; rw [ins_hi h10 (Or.inr (Or.inl rfl))]
  have hkb := insAt_b z (nI d) (nR z)
  rw [hk] at hkb
  obtain ⟨n0, n1, n2, n3, n4, n5⟩ := hN
  refine ⟨val_ins hV hca (rng_nI (lo := 1) (hi := 999) hd1 hd2 (by omega)) (rng_nI (lo := 0) (hi := 999) (Nat.zero_le _) hh9 (by omega)) ⟨s, hs1, hs2, rfl⟩, lkf, nK_le hn, by omega, ⟨?_, ?_, upd_eq, ?_, ?_, ?_⟩, fun j hj => ?_, fun j hj => ?_⟩
  · rw [upd_ne (by omega), upd_eq, eR]
  · rw [upd_ne (by omega), upd_ne (by omega), n1, eC]
  · rw [upd_ne (by omega), upd_ne (by omega), n3, ins_hi h10 (Or.inl (by omega))]
  · rw [upd_ne (by omega), upd_ne (by omega), n4, ins_hi h10 (Or.inl (by omega))]
  · rw [upd_ne (by omega), upd_ne (by omega), n5, ins_hi h10 (Or.inl (by omega))]
  · rw [eR] at hj
    have e : insZ z (nI d) (nI hh) (nI s) = upd (upd (upd (upd (upd (shZ z k (nR z) 0) 3 (nI (nR z + 1))) (5 + 4 * k) (nI d)) (5 + 4 * k + 1) (nI hh)) (5 + 4 * k + 2) (nI s)) (5 + 4 * k + 3) (nI 0) := by unfold insZ; rw [hk]
    rw [e]
    by_cases g3 : j = 4 * k + 3
    · rw [g3, upd_eq, show 5 + (4 * k + 3) = 5 + 4 * k + 3 by omega, upd_eq]
    by_cases g2 : j = 4 * k + 2
    · rw [g2, upd_ne (by omega), upd_eq, show 5 + (4 * k + 2) = 5 + 4 * k + 2 by omega, upd_ne (by omega), upd_eq]
    by_cases g1 : j = 4 * k + 1
    · rw [g1, upd_ne (by omega), upd_ne (by omega), upd_eq, show 5 + (4 * k + 1) = 5 + 4 * k + 1 by omega, upd_ne (by omega), upd_ne (by omega), upd_eq]
    by_cases g0 : j = 4 * k
    · rw [g0, upd_ne (by omega), upd_ne (by omega), upd_ne (by omega), upd_eq, upd_ne (by omega), upd_ne (by omega), upd_ne (by omega), upd_eq]
    rw [upd_ne g3, upd_ne g2, upd_ne g1, upd_ne g0, upd_ne (by omega), upd_ne (by omega), upd_ne (by omega), upd_ne (by omega), upd_ne (by omega)]
    unfold shR shZ
    by_cases g : 4 * (k + 1) ≤ j
    · rw [if_pos (by omega), if_pos (by omega)]
      exact (hO _ (by omega)).trans (congrArg z (by omega))
    · rw [if_neg (by omega), if_neg (by omega)]
      exact hO j (by omega)
  · rw [eC] at hj
    rw [ins_hi h10 (Or.inr (Or.inr (by omega)))]
    exact hC j hj
/-- a row less -/
theorem lx_del (hV : VAL z) (hn : nk ≤ 6) (hN : NN z nk nf) (hO : RO z rf) (hC : CO z cf) (h6 : nR z ≤ 6) {r : Nat} (hr : r < nR z) (pe cn rk : ZZ) :
    LV3 (delZ z r) false pe cn rk (nK nk) (upd (upd nf 0 (nI (nR z - 1))) 2 (nI (nK nk))) (dlR rf r (4 * (nR z - 1))) cf := by
  have eR : nR (delZ z r) = nR z - 1 := by
    show (delZ z r 3).toNatClampNeg = nR z - 1
    rw [del_3, nI_clamp (by omega)]
  have eC : nC (delZ z r) = nC z := by unfold nC; rw [del_lo (by omega) (by omega)]
  obtain ⟨n0, n1, n2, n3, n4, n5⟩ := hN
  refine ⟨val_del hV hr, lkf, nK_le hn, by omega, ⟨?_, ?_, upd_eq, ?_, ?_, ?_⟩, fun j hj => ?_, fun j hj => ?_⟩
  · rw [upd_ne (by omega), upd_eq, eR]
  · rw [upd_ne (by omega), upd_ne (by omega), n1, eC]
  · rw [upd_ne (by omega), upd_ne (by omega), n3, del_lo (by omega) (by omega)]
  · rw [upd_ne (by omega), upd_ne (by omega), n4, del_lo (by omega) (by omega)]
  · rw [upd_ne (by omega), upd_ne (by omega), n5, del_lo (by omega) (by omega)]
  · rw [eR] at hj
    unfold dlR
    by_cases g : 4 * r ≤ j
    · rw [if_pos ⟨g, hj⟩, del_hi (by omega) (by omega)]
      exact (hO (j + 4) (by omega)).trans (congrArg z (by omega))
    · rw [if_neg (by omega), del_lo (by omega) (by omega)]
      exact hO j (by omega)
  · rw [eC] at hj
    have e : delZ z r (45 + j) = z (45 + j) := by unfold delZ delS; rw [if_neg (by omega), if_neg (by omega)]
    rw [e]; exact hC j hj
/-- a column more, a column less -/
theorem lx_addc (hV : VAL z) (hn : nk ≤ 6) (hN : NN z nk nf) (hO : RO z rf) (hC : CO z cf) (h6 : nR z ≤ 6) (hc : nC z < 4) (d s hh : Int32) (pe cn rk : ZZ) :
    LV3 (addC z d s hh) false pe cn rk (nK nk) (upd (upd nf 1 (nI (nC z + 1))) 2 (nI (nK nk))) rf (upd (upd (upd cf (3 * nC z) d) (3 * nC z + 1) s) (3 * nC z + 2) hh) := by
  have lo : ∀ j, j < 45 → j ≠ 4 → addC z d s hh j = z j := fun j h1 h2 => by
    unfold addC; rw [upd_ne h2, upd_ne (by omega), upd_ne (by omega), upd_ne (by omega)]
  have eR : nR (addC z d s hh) = nR z := by unfold nR; rw [lo 3 (by omega) (by omega)]
  have eC : nC (addC z d s hh) = nC z + 1 := by
    show (addC z d s hh 4).toNatClampNeg = nC z + 1
    unfold addC; rw [upd_eq, nI_clamp (by omega)]
  obtain ⟨n0, n1, n2, n3, n4, n5⟩ := hN
  refine ⟨val_addC hV hc d s hh, lkf, nK_le hn, by omega, ⟨?_, ?_, upd_eq, ?_, ?_, ?_⟩, fun j hj => ?_, fun j hj => ?_⟩
  · rw [upd_ne (by omega), upd_ne (by omega), n0, eR]
  · rw [upd_ne (by omega), upd_eq, eC]
  · rw [upd_ne (by omega), upd_ne (by omega), n3, lo 0 (by omega) (by omega)]
  · rw [upd_ne (by omega), upd_ne (by omega), n4, lo 1 (by omega) (by omega)]
  · rw [upd_ne (by omega), upd_ne (by omega), n5, lo 2 (by omega) (by omega)]
  · rw [eR] at hj
    rw [lo (5 + j) (by omega) (by omega)]; exact hO j hj
  · rw [eC] at hj
    unfold addC
    rw [upd_ne (show 45 + j ≠ 4 by omega)]
    by_cases g2 : j = 3 * nC z + 2
    · rw [g2, upd_eq, show 45 + (3 * nC z + 2) = 45 + 3 * nC z + 2 by omega, upd_eq]
    by_cases g1 : j = 3 * nC z + 1
    · rw [g1, upd_ne (by omega), upd_eq, show 45 + (3 * nC z + 1) = 45 + 3 * nC z + 1 by omega, upd_ne (by omega), upd_eq]
    by_cases g0 : j = 3 * nC z
    · rw [g0, upd_ne (by omega), upd_ne (by omega), upd_eq, upd_ne (by omega), upd_ne (by omega), upd_eq]
    rw [upd_ne g2, upd_ne g1, upd_ne g0, upd_ne (by omega), upd_ne (by omega), upd_ne (by omega)]
    exact hC j (by omega)
theorem lx_dlc (hV : VAL z) (hn : nk ≤ 6) (hN : NN z nk nf) (hO : RO z rf) (hC : CO z cf) (h6 : nR z ≤ 6) {c : Nat} (hc : c < nC z) (pe cn rk : ZZ) :
    LV3 (dlcZ z c) false pe cn rk (nK nk) (upd (upd nf 1 (nI (nC z - 1))) 2 (nI (nK nk))) rf (dlC cf c (3 * (nC z - 1))) := by
  have hC4 := wf_C4 hV.1
  have lo : ∀ j, j < 45 → j ≠ 4 → dlcZ z c j = z j := fun j h1 h2 => by
    unfold dlcZ dlcS; rw [if_neg h2, if_neg (by omega)]
  have e4 : dlcZ z c 4 = nI (nC z - 1) := by unfold dlcZ dlcS; rw [if_pos rfl]
  have eR : nR (dlcZ z c) = nR z := by unfold nR; rw [lo 3 (by omega) (by omega)]
  have eC : nC (dlcZ z c) = nC z - 1 := by
    show (dlcZ z c 4).toNatClampNeg = nC z - 1
    rw [e4, nI_clamp (by omega)]
  obtain ⟨n0, n1, n2, n3, n4, n5⟩ := hN
  refine ⟨val_dlc hV hc, lkf, nK_le hn, by omega, ⟨?_, ?_, upd_eq, ?_, ?_, ?_⟩, fun j hj => ?_, fun j hj => ?_⟩
  · rw [upd_ne (by omega), upd_ne (by omega), n0, eR]
  · rw [upd_ne (by omega), upd_eq, eC]
  · rw [upd_ne (by omega), upd_ne (by omega), n3, lo 0 (by omega) (by omega)]
  · rw [upd_ne (by omega), upd_ne (by omega), n4, lo 1 (by omega) (by omega)]
  · rw [upd_ne (by omega), upd_ne (by omega), n5, lo 2 (by omega) (by omega)]
  · rw [eR] at hj
    have hR := wf_R10 hV.1
    rw [lo (5 + j) (by omega) (by omega)]; exact hO j hj
  · rw [eC] at hj
    unfold dlC dlcZ dlcS
    rw [if_neg (show ¬ 45 + j = 4 by omega)]
    by_cases g : 3 * c ≤ j
    · rw [if_pos ⟨g, hj⟩, if_pos (by omega)]
      exact (hC (j + 3) (by omega)).trans (congrArg z (by omega))
    · rw [if_neg (by omega), if_neg (by omega)]
      exact hC j (by omega)
/-- a height, a setting -/
theorem lx_lift (hV : VAL z) (hn : nk ≤ 6) (hN : NN z nk nf) (hO : RO z rf) (hC : CO z cf) (h6 : nR z ≤ 6) {r hh : Nat} (hr : r < nR z) (hh9 : hh ≤ 999) (pe cn rk : ZZ) :
    LV3 (liftZ z r (nI hh)) false pe cn rk (nK nk) (upd nf 2 (nI (nK nk))) (upd rf (4 * r + 1) (nI hh)) cf := by
  have e : liftZ z r (nI hh) = upd z (5 + 4 * r + 1) (nI hh) := rfl
  have eR : nR (liftZ z r (nI hh)) = nR z := nR_upd (by omega)
  have eC : nC (liftZ z r (nI hh)) = nC z := nC_upd (by omega)
  obtain ⟨n0, n1, n2, n3, n4, n5⟩ := hN
  refine ⟨val_h hV r (rng_nI (lo := 0) (hi := 999) (Nat.zero_le _) hh9 (by omega)), lkf, nK_le hn, by omega, ⟨?_, ?_, upd_eq, ?_, ?_, ?_⟩, fun j hj => ?_, fun j hj => ?_⟩
  · rw [upd_ne (by omega), n0, eR]
  · rw [upd_ne (by omega), n1, eC]
  · rw [upd_ne (by omega), n3, e, upd_ne (by omega)]
  · rw [upd_ne (by omega), n4, e, upd_ne (by omega)]
  · rw [upd_ne (by omega), n5, e, upd_ne (by omega)]
  · rw [eR] at hj
    rw [e]
    by_cases g : j = 4 * r + 1
    · rw [g, upd_eq, show 5 + (4 * r + 1) = 5 + 4 * r + 1 by omega, upd_eq]
    · rw [upd_ne g, upd_ne (by omega)]; exact hO j hj
  · rw [eC] at hj
    rw [e, upd_ne (by omega)]; exact hC j hj
theorem lx_set (hV : VAL z) (hn : nk ≤ 6) (hN : NN z nk nf) (hO : RO z rf) (hC : CO z cf) (h6 : nR z ≤ 6) {q : Nat} {v : Int32} (hq : q < 3) (hv : isValB (nI q) v = true) (pe cn rk : ZZ) :
    LV3 (upd z q v) false pe cn rk (nK nk) (upd (upd nf 2 (nI (nK nk))) (3 + q) v) rf cf := by
  have eR : nR (upd z q v) = nR z := nR_upd (by omega)
  have eC : nC (upd z q v) = nC z := nC_upd (by omega)
  obtain ⟨n0, n1, n2, n3, n4, n5⟩ := hN
  refine ⟨val_set hV hq hv, lkf, nK_le hn, by omega, ⟨?_, ?_, ?_, ?_, ?_, ?_⟩, fun j hj => ?_, fun j hj => ?_⟩
  · rw [upd_ne (by omega), upd_ne (by omega), n0, eR]
  · rw [upd_ne (by omega), upd_ne (by omega), n1, eC]
  · rw [upd_ne (by omega), upd_eq]
  · by_cases g : q = 0
    · subst g; rw [upd_eq, upd_eq]
    · rw [upd_ne (by omega), upd_ne (by omega), n3, upd_ne (by omega)]
  · by_cases g : q = 1
    · subst g; rw [upd_eq, upd_eq]
    · rw [upd_ne (by omega), upd_ne (by omega), n4, upd_ne (by omega)]
  · by_cases g : q = 2
    · subst g; rw [upd_eq, upd_eq]
    · rw [upd_ne (by omega), upd_ne (by omega), n5, upd_ne (by omega)]
  · rw [eR] at hj
    rw [upd_ne (by omega)]; exact hO j hj
  · rw [eC] at hj
    rw [upd_ne (by omega)]; exact hC j hj
/-- people -/
theorem lx_bits (hN : NN z nk nf) (hn : nk ≤ 6) (hO : RO z rf) (hC : CO z cf) (h6 : nR z ≤ 6) {r : Nat} (hr : r < nR z) {v : Int32} (hV' : VAL (upd z (5 + 4 * r + 3) v)) (pe cn rk : ZZ) :
    LV3 (upd z (5 + 4 * r + 3) v) false pe cn rk (nK nk) (upd nf 2 (nI (nK nk))) (upd rf (4 * r + 3) v) cf := by
  have eR : nR (upd z (5 + 4 * r + 3) v) = nR z := nR_upd (by omega)
  have eC : nC (upd z (5 + 4 * r + 3) v) = nC z := nC_upd (by omega)
  have hR := wf_R10 hV'.1
  rw [eR] at hR
  obtain ⟨n0, n1, n2, n3, n4, n5⟩ := hN
  refine ⟨hV', lkf, nK_le hn, by omega, ⟨?_, ?_, upd_eq, ?_, ?_, ?_⟩, fun j hj => ?_, fun j hj => ?_⟩
  · rw [upd_ne (by omega), n0, eR]
  · rw [upd_ne (by omega), n1, eC]
  · rw [upd_ne (by omega), n3, upd_ne (by omega)]
  · rw [upd_ne (by omega), n4, upd_ne (by omega)]
  · rw [upd_ne (by omega), n5, upd_ne (by omega)]
  · by_cases g : j = 4 * r + 3
    · rw [g, upd_eq, show 5 + (4 * r + 3) = 5 + 4 * r + 3 by omega, upd_eq]
    · rw [eR] at hj
      rw [upd_ne g, upd_ne (by omega)]; exact hO j hj
  · rw [eC] at hj
    rw [upd_ne (by omega)]; exact hC j hj
theorem tk_b {r s : Nat} (hs : s < 31) : tk z r s = bt (z (5 + 4 * r + 3)) s := by unfold tk; exact tk_bt _ hs
theorem xor_take {r s : Nat} (hs : s < 31) (h : tk z r s = false) : z (5 + 4 * r + 3) ^^^ (nI 1 <<< (nI s &&& 31)) = z (5 + 4 * r + 3) ||| (nI 1 <<< (nI s &&& 31)) := by
  rw [tk_b hs] at h
  refine b_ext (fun i hi => ?_)
  rw [b_xor, b_or, one_shl_bt hs hi]
  by_cases g : i = s
  · subst g; rw [h]; simp
  · rw [decide_eq_false g]; simp
theorem xor_leave {r s : Nat} (hs : s < 31) (h : tk z r s = true) : z (5 + 4 * r + 3) ^^^ (nI 1 <<< (nI s &&& 31)) = z (5 + 4 * r + 3) &&& ((nI 1 <<< (nI s &&& 31)) ^^^ (-1)) := by
  rw [tk_b hs] at h
  refine b_ext (fun i hi => ?_)
  rw [b_xor, b_and, b_xor, one_shl_bt hs hi, b_m1 i hi]
  by_cases g : i = s
  · subst g; rw [h]; simp
  · rw [decide_eq_false g]; simp
theorem lx_take (hV : VAL z) (hN : NN z nk nf) (hn : nk ≤ 6) (hO : RO z rf) (hC : CO z cf) (h6 : nR z ≤ 6) {r s : Nat} (hr : r < nR z) (hs : s < nS z r) (ht : tk z r s = false) (pe cn rk : ZZ) :
    LV3 (takeZ z r s) false pe cn rk (nK nk) (upd nf 2 (nI (nK nk))) (upd rf (4 * r + 3) (z (5 + 4 * r + 3) ^^^ (nI 1 <<< (nI s &&& 31)))) cf := by
  have hS := wf_S12 hV.1 hr
  rw [xor_take (by omega) ht]
  refine lx_bits hN hn hO hC h6 hr ?_ pe cn rk
  show VAL (takeZ z r s)
  rw [← occ_take]; exact val_occ hV hr (by omega)
theorem lx_leave (hV : VAL z) (hN : NN z nk nf) (hn : nk ≤ 6) (hO : RO z rf) (hC : CO z cf) (h6 : nR z ≤ 6) {r s : Nat} (hr : r < nR z) (hs : s < nS z r) (ht : tk z r s = true) (pe cn rk : ZZ) :
    LV3 (leaveZ z r s) false pe cn rk (nK nk) (upd nf 2 (nI (nK nk))) (upd rf (4 * r + 3) (z (5 + 4 * r + 3) ^^^ (nI 1 <<< (nI s &&& 31)))) cf := by
  have hS := wf_S12 hV.1 hr
  rw [xor_leave (by omega) ht]
  refine lx_bits hN hn hO hC h6 hr ?_ pe cn rk
  show VAL (leaveZ z r s)
  rw [← vac_leave]; exact val_vac hV hr
theorem lx_party (hV : VAL z) (hN : NN z nk nf) (hn : nk ≤ 6) (hO : RO z rf) (hC : CO z cf) (h6 : nR z ≤ 6) {r f m : Nat} (hr : r < nR z) (hf : f + m ≤ nS z r) (pe cn rk : ZZ) :
    LV3 (partyZ z r f m) false pe cn rk (nK nk) (upd nf 2 (nI (nK nk))) (upd rf (4 * r + 3) (partyZ z r f m (5 + 4 * r + 3))) cf := by
  have hS := wf_S12 hV.1 hr
  rw [party_occ z r f (by omega)]
  have e : occZ z r f m (5 + 4 * r + 3) = z (5 + 4 * r + 3) ||| bitsI f m := upd_eq
  rw [e]
  exact lx_bits hN hn hO hC h6 hr (val_occ hV hr hf) pe cn rk
theorem lx_clr (hV : VAL z) (hN : NN z nk nf) (hn : nk ≤ 6) (hO : RO z rf) (hC : CO z cf) (h6 : nR z ≤ 6) (pe cn rk : ZZ) :
    LV3 (clrZ z) false pe cn rk (nK nk) (upd nf 2 (nI (nK nk))) (zrR rf (nR z)) cf := by
  have lo : ∀ j, j < 5 → clrZ z j = z j := fun j hj => by unfold clrZ clrS; rw [if_neg (by omega)]
  have eR : nR (clrZ z) = nR z := by unfold nR; rw [lo 3 (by omega)]
  have eC : nC (clrZ z) = nC z := by unfold nC; rw [lo 4 (by omega)]
  obtain ⟨n0, n1, n2, n3, n4, n5⟩ := hN
  refine ⟨val_clr hV, lkf, nK_le hn, by omega, ⟨?_, ?_, upd_eq, ?_, ?_, ?_⟩, fun j hj => ?_, fun j hj => ?_⟩
  · rw [upd_ne (by omega), n0, eR]
  · rw [upd_ne (by omega), n1, eC]
  · rw [upd_ne (by omega), n3, lo 0 (by omega)]
  · rw [upd_ne (by omega), n4, lo 1 (by omega)]
  · rw [upd_ne (by omega), n5, lo 2 (by omega)]
  · rw [eR] at hj
    unfold zrR clrZ clrS
    by_cases g : j % 4 = 3
    · rw [if_pos ⟨hj, g⟩, if_pos (by omega)]
    · rw [if_neg (fun q => g q.2), if_neg (by omega)]; exact hO j hj
  · rw [eC] at hj
    have e : clrZ z (45 + j) = z (45 + j) := by unfold clrZ clrS; rw [if_neg (by omega)]
    rw [e]; exact hC j hj
end LVS
