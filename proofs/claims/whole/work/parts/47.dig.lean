/-! the digest, as the class makes it -/
def dgCC (z : ZZ) (k : Nat) (h : Int64) : Int64 := itN k (fun r h => mixRowC z r h) h
def dgEC (z : ZZ) (k : Nat) (h : Int64) : Int64 := itN k (fun j h => mixL h (bestW z (nI j)).toInt64) h
def dgFC (z : ZZ) (nl : Nat) (h : Int64) : Int64 := mixL (mixL (mixL h (worstI z).toInt64) (bosI (shareD z))) (nI nl).toInt64
def dgH2 (z : ZZ) (ns : Nat) : Int64 := dgCC z (nR z) (dg1 z ns)
def dgH3 (z : ZZ) (ns : Nat) : Int64 := dgD z (4 * nC z) (dgH2 z ns)
def dgH4 (z : ZZ) (ns nl : Nat) : Int64 := dgFC z nl (dgEC z 3 (dgH3 z ns))
def digC (z ts : ZZ) (ns nl : Nat) : Int64 := dgG ts nl (dgH4 z ns nl)
theorem dgCC_s (z : ZZ) (k : Nat) (h : Int64) : dgCC z (k + 1) h = mixRowC z k (dgCC z k h) := rfl
theorem dgEC_s (z : ZZ) (k : Nat) (h : Int64) : dgEC z (k + 1) h = mixL (dgEC z k h) (bestW z (nI k)).toInt64 := rfl
theorem dgD_s4 (z : ZZ) (i w : Nat) (hw : w < 4) (h : Int64) : mixL (dgD z (4 * i + w) h) (colNow z i w).toInt64 = dgD z (4 * i + (w + 1)) h := by
  rw [show 4 * i + (w + 1) = (4 * i + w) + 1 by omega, dgD_s, show (4 * i + w) / 4 = i by omega, show (4 * i + w) % 4 = w by omega]
def trZ (z : ZZ) (k : Nat) (z2 : ZZ) : ZZ := itN k (fun r _ => upd z (5 + 4 * r + 1) (nI 50)) z2
def trL (k : Nat) (b : Bool) : Bool := itN k (fun _ _ => true) b
def trP (g : ZZ → Nat → Nat → Nat) (z : ZZ) (k : Nat) (f : ZZ) : ZZ := itN k (fun r f => lkP false (g (upd z (5 + 4 * r + 1) (nI 50))) (upd z (5 + 4 * r + 1) (nI 50)) f) f
theorem dgCC_0 (z : ZZ) (h : Int64) : dgCC z 0 h = h := rfl
theorem dgEC_0 (z : ZZ) (h : Int64) : dgEC z 0 h = h := rfl
theorem trZ_s (z : ZZ) (k : Nat) (z2 : ZZ) : trZ z (k + 1) z2 = upd z (5 + 4 * k + 1) (nI 50) := rfl
theorem trP_s (g : ZZ → Nat → Nat → Nat) (z : ZZ) (k : Nat) (f : ZZ) : trP g z (k + 1) f = lkP false (g (upd z (5 + 4 * k + 1) (nI 50))) (upd z (5 + 4 * k + 1) (nI 50)) (trP g z k f) := rfl
