/-! what both sides answer is the same -/
theorem seat_CI {z : ZZ} (hw : WF z) (wy : ZZ) {r s w : Nat} (hr : r < nR z) (hs : s < nS z r) (hw7 : w < 7) : seatC z r s w = seatI z wy r s w := by
  rcases (show w = 0 ∨ w = 1 ∨ w = 2 ∨ w = 3 ∨ w = 4 ∨ w = 5 ∨ w = 6 by omega) with rfl | rfl | rfl | rfl | rfl | rfl | rfl
  · rfl
  · rfl
  · rfl
  · rfl
  · rfl
  · rfl
  · show nI (plc z r s false) = nI (sAh z (layF z wy) r s false)
    rw [sAh_plc hw wy hr hs false]
theorem mrW_CI {z : ZZ} (hw : WF z) (wy : ZZ) {r s : Nat} (hr : r < nR z) (hs : s < nS z r) (h : Int64) : mrWC z r s h = mrW z wy r s h := by
  unfold mrWC mrW
  refine itN_c (fun k y hk => ?_)
  rw [seat_CI hw wy hr hs hk]
theorem mrS_CI {z : ZZ} (hw : WF z) (wy : ZZ) {r s : Nat} (hr : r < nR z) (hs : s < nS z r) (h : Int64) : mrSC z r s h = mrS z wy r s h := by
  unfold mrSC mrS
  rw [mrW_CI hw wy hr hs h]
theorem mixRow_CI {z : ZZ} (hw : WF z) (wy : ZZ) {r : Nat} (hr : r < nR z) (h : Int64) : mixRowC z r h = mixRowL z wy r h := by
  unfold mixRowC mixRowL
  exact itN_c (fun k y hk => mrS_CI hw _ hr hk y)
theorem dgC_CI {z : ZZ} (hw : WF z) (wy : ZZ) {k : Nat} (hk : k ≤ nR z) (h : Int64) : dgCC z k h = dgC z wy k h := by
  unfold dgCC dgC
  exact itN_c (fun j y hj => mixRow_CI hw _ (by omega) y)
theorem dgE_CI {z : ZZ} (hw : WF z) (wy : ZZ) (k : Nat) (h : Int64) : dgEC z k h = dgE z wy k h := by
  unfold dgEC dgE
  refine itN_c (fun j y hj => ?_)
  rw [best_W hw]
theorem dgG_CI {ts tx : ZZ} {k : Nat} (hx : ∀ j, j < k → tx j = ts j) (h : Int64) : dgG ts k h = dgG tx k h := by
  unfold dgG
  refine itN_c (fun j y hj => ?_)
  rw [hx j hj]
theorem dig_CI {z ts tx : ZZ} (hw : WF z) (wy : ZZ) {ns nl : Nat} (hx : ∀ j, j < nl → tx j = ts j) (hB : bosI (shareD z) = d2lb (shareD z)) : digC z ts ns nl = digI z wy tx ns nl := by
  have h2 : dgH2 z ns = dgC z wy (nR z) (dg1 z ns) := by unfold dgH2; exact dgC_CI hw wy (Nat.le_refl _) _
  have h3 : dgH3 z ns = dg2 z wy ns := by unfold dgH3 dg2; rw [h2]
  have h4 : dgH4 z ns nl = dg3 z wy ns nl := by
    unfold dgH4 dg3 dgFC dgF
    rw [h3, dgE_CI hw (wyD z (nR z) wy) 3, hB]
  unfold digC digI
  rw [h4]
  exact dgG_CI hx _
/-- the reference's flat array of saved halls, and the class's saved halls -/
def REL (n : Nat) (q : Nat → ZZ) (zh : ZZ) : Prop := ∀ k, k < n → ∀ j, j < 57 → zh (57 * k + j) = q k j
theorem cpH_in {z zh : ZZ} {b k j : Nat} (hj : j < k) : cpH z zh b k (57 * b + j) = z j := by
  unfold cpH; rw [if_pos (by omega)]; congr 1; omega
theorem cpH_out {z zh : ZZ} {b k j : Nat} (hj : j < 57 * b) : cpH z zh b k j = zh j := by
  unfold cpH; rw [if_neg (by omega)]
theorem shH_at {zh : ZZ} {j k : Nat} (hj : j + 57 < k) : shH zh k j = zh (j + 57) := by unfold shH; rw [if_pos hj]
theorem rel_save {n : Nat} (hn : n ≤ 6) {q : Nat → ZZ} {zh : ZZ} (h : REL n q zh) (z : ZZ) : REL (nK n) (qK n q z) (saveH z zh n) := by
  intro k hk j hj
  unfold nK at hk
  unfold saveH qK
  by_cases g : n = 6
  · rw [if_pos g] at hk
    rw [if_pos g, if_pos g]
    subst g
    show cpH z (shH zh 342) 5 57 (57 * k + j) = qset (rot q) 5 z k j
    unfold qset
    by_cases g5 : k = 5
    · subst g5
      rw [if_pos rfl]; exact cpH_in hj
    · rw [if_neg g5, cpH_out (by omega), shH_at (by omega)]
      show _ = (rot q k) j
      unfold rot
      rw [if_neg g5, show 57 * k + j + 57 = 57 * (k + 1) + j by omega]
      exact h (k + 1) (by omega) j hj
  · rw [if_neg g] at hk
    rw [if_neg g, if_neg g]
    unfold qset
    by_cases g5 : k = n
    · subst g5
      rw [if_pos rfl]; exact cpH_in hj
    · rw [if_neg g5, cpH_out (by omega)]
      exact h k (by omega) j hj
def QV (n : Nat) (q : Nat → ZZ) : Prop := ∀ k, k < n → VAL (q k)
theorem qv_save {n : Nat} (hn : n ≤ 6) {q : Nat → ZZ} (h : QV n q) {z : ZZ} (hz : VAL z) : QV (nK n) (qK n q z) := by
  intro k hk
  unfold nK at hk
  unfold qK
  by_cases g : n = 6
  · rw [if_pos g] at hk
    rw [if_pos g]
    unfold qset
    by_cases g5 : k = 5
    · rw [if_pos g5]; exact hz
    · rw [if_neg g5]
      unfold rot
      rw [if_neg g5]
      exact h (k + 1) (by omega)
  · rw [if_neg g] at hk
    rw [if_neg g]
    unfold qset
    by_cases g5 : k = n
    · rw [if_pos g5]; exact hz
    · rw [if_neg g5]; exact h k (by omega)
theorem nK_le {n : Nat} (hn : n ≤ 6) : nK n ≤ 6 := by unfold nK; split <;> omega
theorem saveN_nK (n : Nat) : saveN n = nK n := rfl
theorem und_at {n : Nat} {q : Nat → ZZ} {zh z : ZZ} (h : REL n q zh) (hn : 0 < n) {j : Nat} (hj : j < 57) : undS z zh (n - 1) 57 j = q (n - 1) j := by
  unfold undS; rw [if_pos hj]; exact h (n - 1) (by omega) j hj
theorem val_z00 : VAL z00 := by
  have hR : nR z00 = 0 := by decide
  have hC : nC z00 = 0 := by decide
  refine ⟨⟨by decide, by decide, by decide, by decide, fun r hr => absurd hr (by rw [hR]; omega)⟩, fun a r _ hr => absurd hr (by rw [hR]; omega), fun r hr => absurd hr (by rw [hR]; omega), fun r hr => absurd hr (by rw [hR]; omega), ⟨?_, ?_, ?_⟩⟩
  · show (0 : Int) ≤ (nI 100).toInt ∧ (nI 100).toInt ≤ 999
    rw [nI_toInt (by omega)]; omega
  · show (1 : Int) ≤ (nI 120).toInt ∧ (nI 120).toInt ≤ 300
    rw [nI_toInt (by omega)]; omega
  · show (0 : Int) ≤ (nI 12).toInt ∧ (nI 12).toInt ≤ 100
    rw [nI_toInt (by omega)]; omega
theorem ts_app {ts : ZZ} {n : Nat} (h : TS ts n) {c : Int32} (hc : wthn c (nI 33) (nI 126) = true) : TS (upd ts n c) (n + 1) := by
  intro j hj
  by_cases g : j = n
  · subst g; rw [upd_eq]; exact wthn126_out hc
  · rw [upd_ne g]; exact h j (by omega)
