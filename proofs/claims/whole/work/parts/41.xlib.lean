/-! words of the class's face -/
def seatC (z : ZZ) (r s wh : Nat) : Int32 := match wh with
  | 0 => side z r s
  | 1 => nI (b2 (tk z r s))
  | 2 => nI (people z r s)
  | 3 => nI (colsW z r s (-1))
  | 4 => nI (b2 (seesB z r s))
  | 5 => nI (blkd z r s false)
  | _ => nI (plc z r s false)
theorem ws_h {z : ZZ} (h : WS z) (r : Nat) (v : Int32) : WS (upd z (5 + 4 * r + 1) v) := by
  intro a q h1 h2
  have e3 : nR (upd z (5 + 4 * r + 1) v) = nR z := nR_upd (by omega)
  rw [e3] at h2
  rw [upd_ne (by omega), upd_ne (by omega)]
  exact h a q h1 h2
