/-! words of the class's face -/
def seatC (z : ZZ) (r s wh : Nat) : Int32 := match wh with
  | 0 => side z r s
  | 1 => nI (b2 (tk z r s))
  | 2 => nI (people z r s)
  | 3 => nI (colsW z r s (-1))
  | 4 => nI (b2 (seesB z r s))
  | 5 => nI (blkd z r s false)
  | _ => nI (plc z r s false)
theorem ws_h {z : ZZ} (h : WS z) (r : Nat) (v : Int32) : WS (upd z (5 + 4 * r + 1) v) := by
  intro a q h1 h2
  have e3 : nR (upd z (5 + 4 * r + 1) v) = nR z := nR_upd (by omega)
  rw [e3] at h2
  rw [upd_ne (by omega), upd_ne (by omega)]
  exact h a q h1 h2
def mrWC (z : ZZ) (r s : Nat) (za : Int64) : Int64 := itN 7 (fun w h => mixL h (seatC z r s w).toInt64) za
def mrSC (z : ZZ) (r s : Nat) (za : Int64) : Int64 := mixL (mixL (mrWC z r s za) (blockerI z r s).toInt64) (nI (takThen z r s)).toInt64
def mixRowC (z : ZZ) (r : Nat) (za : Int64) : Int64 := itN (nS z r) (fun s h => mrSC z r s h) (mrB z r za)
