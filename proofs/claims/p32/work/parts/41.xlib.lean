/-! words of the class's face -/
def seatC (z : ZZ) (r s wh : Nat) : Int32 := match wh with
  | 0 => side z r s
  | 1 => nI (b2 (tk z r s))
  | 2 => nI (people z r s)
  | 3 => nI (colsW z r s (-1))
  | 4 => nI (b2 (seesB z r s))
  | 5 => nI (blkd z r s false)
  | _ => nI (plc z r s false)
theorem ws_h {z : ZZ} (h : WS z) (r : Nat) (v : Int32) : WS (upd z (5 + 4 * r + 1) v) := by
  intro a q h1 h2
  have e3 : nR (upd z (5 + 4 * r + 1) v) = nR z := nR_upd (by omega)
  rw [e3] at h2
  rw [upd_ne (by omega), upd_ne (by omega)]
  exact h a q h1 h2
def mrWC (z : ZZ) (r s : Nat) (za : Int64) : Int64 := itN 7 (fun w h => mixL h (seatC z r s w).toInt64) za
def mrSC (z : ZZ) (r s : Nat) (za : Int64) : Int64 := mixL (mixL (mrWC z r s za) (blockerI z r s).toInt64) (nI (takThen z r s)).toInt64
def mixRowC (z : ZZ) (r : Nat) (za : Int64) : Int64 := itN (nS z r) (fun s h => mrSC z r s h) (mrB z r za)
theorem val_h {z : ZZ} (h : VAL z) (r : Nat) {v : Int32} (hv : rng v 0 999) : VAL (upd z (5 + 4 * r + 1) v) := by
  obtain ⟨h1, h2, h3, h4, h5⟩ := h
  have e3 : nR (upd z (5 + 4 * r + 1) v) = nR z := nR_upd (by omega)
  have eS : ∀ q, nS (upd z (5 + 4 * r + 1) v) q = nS z q := fun q => by unfold nS; rw [upd_ne (by omega)]
  refine ⟨wf_h h1 r v, ws_h h2 r v, ?_, ?_, ?_⟩
  · intro q hq
    rw [e3] at hq
    obtain ⟨t, a, b⟩ := h3 q hq
    exact ⟨t, by rw [eS]; exact a, by rw [upd_ne (by omega)]; exact b⟩
  · intro q hq
    rw [e3] at hq
    obtain ⟨a, b, c⟩ := h4 q hq
    refine ⟨by rw [upd_ne (by omega)]; exact a, ?_, by rw [eS]; exact c⟩
    by_cases g : q = r
    · subst g; rw [upd_eq]; exact hv
    · rw [upd_ne (by omega)]; exact b
  · rw [upd_ne (by omega), upd_ne (by omega), upd_ne (by omega)]; exact h5
theorem val_laS {z : ZZ} (h : VAL z) (n r : Nat) (hr : r < nR z) : VAL (laS r (z, n)).1 := by
  unfold laS
  split
  · exact h
  · split
    · exact h
    · rename_i h1 h2
      refine val_h (v := leastForI z r) h r ?_
      have h6 := (h.2.2.2.1 r hr).2.1.1
      have h3 : ¬ (leastForI z r).toInt ≤ (z (5 + 4 * r + 1)).toInt := fun q => h1 (Int32.le_iff_toInt_le.mpr q)
      have h4 : ¬ (nI 999).toInt < (leastForI z r).toInt := fun q => h2 (Int32.lt_iff_toInt_lt.mpr q)
      have h5 : (nI 999).toInt = 999 := by decide
      rw [h5] at h4
      exact ⟨by omega, by omega⟩
theorem laN_val {z : ZZ} (h : VAL z) (k : Nat) (hk : k ≤ nR z - 1) : VAL (laN z k).1 := by
  induction k with
  | zero => exact h
  | succ k ih =>
    have g := ih (by omega)
    obtain ⟨h1, h2, h3, h4⟩ := laN_wf h.1 (val_wd h) k (by omega)
    rw [laN_s]
    exact val_laS (z := (laN z k).1) g (laN z k).2 (1 + k) (by omega)
