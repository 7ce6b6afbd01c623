/-! words of the class's face -/
def seatC (z : ZZ) (r s wh : Nat) : Int32 := match wh with
  | 0 => side z r s
  | 1 => nI (b2 (tk z r s))
  | 2 => nI (people z r s)
  | 3 => nI (colsW z r s (-1))
  | 4 => nI (b2 (seesB z r s))
  | 5 => nI (blkd z r s false)
  | _ => nI (plc z r s false)
