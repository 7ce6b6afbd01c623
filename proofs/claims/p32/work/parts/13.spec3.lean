/-- what the reference writes -/
theorem mw_c {a : Nat → Nat} {cI : ClassId} {z z' : ZZ} {st st' : Int32} {zh zh' : ZZ} {le le' : Int32} {tx tx' : ZZ} {th th' : Int32} {pa pa' : ZZ} {rd rd' nu nu' pt pt' : Int32} {wy wy' : ZZ} {za za' : Int64} (h1 : z = z') (h2 : st = st') (h3 : zh = zh') (h4 : le = le') (h5 : tx = tx') (h6 : th = th') (h7 : pa = pa') (h8 : rd = rd') (h9 : nu = nu') (h10 : pt = pt') (h11 : wy = wy') (h12 : za = za') : MW a cI z st zh le tx th pa rd nu pt wy za = MW a cI z' st' zh' le' tx' th' pa' rd' nu' pt' wy' za' := by
  subst h1 h2 h3 h4 h5 h6 h7 h8 h9 h10 h11 h12; rfl
theorem hr_c {b : Nat → Nat} {cI : ClassId} {ro ro' : Int32} {di di' hg hg' se se' ta ta' : ZZ} {co co' : Int32} {cd cd' cs cs' ch ch' sg sg' : ZZ} (h1 : ro = ro') (h2 : di = di') (h3 : hg = hg') (h4 : se = se') (h5 : ta = ta') (h6 : co = co') (h7 : cd = cd') (h8 : cs = cs') (h9 : ch = ch') (h10 : sg = sg') : HR b cI ro di hg se ta co cd cs ch sg = HR b cI ro' di' hg' se' ta' co' cd' cs' ch' sg' := by
  subst h1 h2 h3 h4 h5 h6 h7 h8 h9 h10; rfl
def mixL (h v : Int64) : Int64 := (31 * h) + v
def layS (z : ZZ) (r s : Nat) (wy : ZZ) : ZZ := upd wy (12 * r + s) (nI (ways z r s))
def layR (z : ZZ) (r : Nat) (wy : ZZ) : ZZ := itN (nS z r) (layS z r) wy
def layF (z wy : ZZ) : ZZ := itN (nR z) (layR z) wy
def shH (zh : ZZ) (k : Nat) : ZZ := fun j => if j + 57 < k then zh (j + 57) else zh j
def cpH (z zh : ZZ) (b k : Nat) : ZZ := fun j => if 57 * b ≤ j ∧ j < 57 * b + k then z (j - 57 * b) else zh j
def saveH (z zh : ZZ) (n : Nat) : ZZ := if n = 6 then cpH z (shH zh 342) (n - 1) 57 else cpH z zh n 57
def saveN (n : Nat) : Nat := if n = 6 then 6 else n + 1
def shZ (z : ZZ) (k R w : Nat) : ZZ := fun j => if (5 + 4 * (k + 1) ≤ j ∧ j < 5 + 4 * (R + 1)) ∨ (5 + 4 * k ≤ j ∧ j < 5 + 4 * k + w) then z (j - 4) else z j
/-- where a row of this distance goes: behind those that are not farther -/
def insAt (z : ZZ) (d : Int32) : Nat → Nat
  | 0 => 0
  | k + 1 => if z (5 + 4 * k) ≤ d then k + 1 else insAt z d k
def insZ (z : ZZ) (d h s : Int32) : ZZ := let k := insAt z d (nR z); upd (upd (upd (upd (upd (shZ z k (nR z) 0) 3 (nI (nR z + 1))) (5 + 4 * k) d) (5 + 4 * k + 1) h) (5 + 4 * k + 2) s) (5 + 4 * k + 3) (nI 0)
def liftThen (z : ZZ) (r : Nat) (h : Int32) : Nat := seeing (upd z (5 + 4 * r + 1) h) true
def takThen (z : ZZ) (r s : Nat) : Nat := if tk z r s = true then 0 else blkd z r s true
def colNow (z : ZZ) (k w : Nat) : Int32 := if w < 3 then z (45 + 3 * k + w) else nI (cBeh z k)
def bsS (z wy : ZZ) (pl : Int32) (r w : Nat) (x : Int32) : Int32 := if (!tk z r w && decide (nI (sAh z wy r w true) = pl)) = true then nI (100 * r + w) else x
def bsR (z wy : ZZ) (pl : Int32) (r : Nat) (x : Int32) : Int32 := itN (nS z r) (bsS z wy pl r) x
def bestI (z wy : ZZ) (pl : Int32) : Int32 := itN (nR z) (bsR z wy pl) (-1)
def countI (z : ZZ) (ns wh : Nat) : Int32 := match wh with
  | 0 => nI (nR z)
  | 1 => nI (nC z)
  | 2 => nI (seatsAll z)
  | 3 => nI (takenAll z)
  | 4 => nI (seeing z false)
  | 5 => nI (seeing z true)
  | 6 => nI (pairsN z)
  | 7 => lgI z
  | _ => nI ns
def seatWy (z wy : ZZ) (wh : Nat) : ZZ := if wh = 6 then layF z wy else wy
def seatI (z wy : ZZ) (r s wh : Nat) : Int32 := match wh with
  | 0 => side z r s
  | 1 => nI (b2 (tk z r s))
  | 2 => nI (people z r s)
  | 3 => nI (colsW z r s (-1))
  | 4 => nI (b2 (seesB z r s))
  | 5 => nI (blkd z r s false)
  | _ => nI (sAh z (layF z wy) r s false)
theorem upd_back (z : ZZ) (i : Nat) (v : Int32) : upd (upd z i v) i (z i) = z := by
  funext j; unfold upd; by_cases h : j = i <;> simp [h]
theorem upd_ne {z : ZZ} {i j : Nat} {v : Int32} (h : j ≠ i) : upd z i v j = z j := by unfold upd; rw [if_neg h]
theorem upd_eq {z : ZZ} {i : Nat} {v : Int32} : upd z i v i = v := by unfold upd; rw [if_pos rfl]
theorem wf_h {z : ZZ} (hw : WF z) (r : Nat) (v : Int32) : WF (upd z (5 + 4 * r + 1) v) := by
  have e3 : upd z (5 + 4 * r + 1) v 3 = z 3 := upd_ne (by omega)
  by_cases h4 : 5 + 4 * r + 1 = 4
  · omega
  have e4 : upd z (5 + 4 * r + 1) v 4 = z 4 := upd_ne (by omega)
  have eR : nR (upd z (5 + 4 * r + 1) v) = nR z := by unfold nR; rw [e3]
  have eC : nC (upd z (5 + 4 * r + 1) v) = nC z := by unfold nC; rw [e4]
  have eS : ∀ q, upd z (5 + 4 * r + 1) v (5 + 4 * q + 2) = z (5 + 4 * q + 2) := fun q => upd_ne (by omega)
  have eN : ∀ q, nS (upd z (5 + 4 * r + 1) v) q = nS z q := fun q => by unfold nS; rw [eS]
  refine ⟨?_, ?_, ?_, ?_, ?_⟩
  · rw [e3, eR]; exact hw.1
  · rw [eR]; exact hw.2.1
  · rw [e4, eC]; exact hw.2.2.1
  · rw [eC]; exact hw.2.2.2.1
  · intro q hq; rw [eR] at hq; rw [eS, eN]; exact hw.2.2.2.2 q hq
theorem insAt_0 {z : ZZ} {d : Int32} {k : Nat} (h : k = 0) : insAt z d k = k := by subst h; rfl
theorem insAt_le {z : ZZ} {d : Int32} {k : Nat} (h : 0 < k) (h2 : z (5 + 4 * (k - 1)) ≤ d) : insAt z d k = k := by
  obtain ⟨q, rfl⟩ : ∃ q, k = q + 1 := ⟨k - 1, by omega⟩
  rw [Nat.add_sub_cancel] at h2
  show (if z (5 + 4 * q) ≤ d then q + 1 else insAt z d q) = q + 1
  rw [if_pos h2]
theorem insAt_gt {z : ZZ} {d : Int32} {k : Nat} (h : 0 < k) (h2 : ¬ z (5 + 4 * (k - 1)) ≤ d) : insAt z d k = insAt z d (k - 1) := by
  obtain ⟨q, rfl⟩ : ∃ q, k = q + 1 := ⟨k - 1, by omega⟩
  rw [Nat.add_sub_cancel] at h2 ⊢
  show (if z (5 + 4 * q) ≤ d then q + 1 else insAt z d q) = insAt z d q
  rw [if_neg h2]
def mrA (z : ZZ) (r : Nat) (za : Int64) : Int64 := itN 6 (fun w h => mixL h (rowNowI z r w).toInt64) za
def mrB (z : ZZ) (r : Nat) (za : Int64) : Int64 := mixL (mixL (mrA z r za) (leastForI z r).toInt64) (nI (liftThen z r (nI 50))).toInt64
def mrW (z wy : ZZ) (r s : Nat) (za : Int64) : Int64 := itN 7 (fun w h => mixL h (seatI z wy r s w).toInt64) za
def mrS (z wy : ZZ) (r s : Nat) (za : Int64) : Int64 := mixL (mixL (mrW z wy r s za) (blockerI z r s).toInt64) (nI (takThen z r s)).toInt64
def wyRow (z : ZZ) (n : Nat) (wy : ZZ) : ZZ := itN n (fun _ w => layF z w) wy
def mixRowL (z wy : ZZ) (r : Nat) (za : Int64) : Int64 := itN (nS z r) (fun s h => mrS z (wyRow z s wy) r s h) (mrB z r za)
theorem takenAll_b {z : ZZ} (hw : WF z) : takenAll z ≤ 120 := by
  have hR := wf_R10 hw
  have h : takenAll z ≤ nR z * 12 := sumN_b fun r hr => by
    have h2 := wf_S12 hw hr
    have h3 : takenIn z r ≤ nS z r * 1 := sumN_b fun w _ => b2_b _
    omega
  omega
theorem seeing_b {z : ZZ} (hw : WF z) (t : Bool) : seeing z t ≤ 120 := by
  have hR := wf_R10 hw
  have h : seeing z t ≤ nR z * 12 := sumN_b fun r hr => by
    have h2 := wf_S12 hw hr
    have h3 : seeIn z r t ≤ nS z r * 1 := sumN_b fun w _ => b2_b _
    omega
  omega
def shareD (z : ZZ) : UInt64 := if takenAll z = 0 then FP.dconst1 else FP.ddiv (FP.i2d (nI (seeing z true))) (FP.i2d (nI (takenAll z)))
def isNaNB (x : UInt64) : Bool := !decide (Op.cmpValue (FP.dcmp x x) CmpOp.l = 0)
def d2lb (x : UInt64) : Int64 := if isNaNB x = true then 9221120237041090560 else x.toInt64
theorem share_nn : ∀ a, a < 121 → ∀ b, b < 121 → 0 < b → vf_n64 (FP.ddiv (FP.i2d (nI a)) (FP.i2d (nI b))) := by unfold vf_n64; decide +kernel
section KY
variable {p : Program} {l : Launch} {e : Env} {R : Room} {s : State} {m : MethodId} {args : Array Value} {below : List Frame} {meth : Method} {c : Code} {H : Heap} {locs : List Loc} {cells slots : Nat} {Q : State → Prop}
variable {cc : ByteArray} {pc : Nat} {ls : Array Slot} {rest : List Value}
theorem kx_idiv (hexec : p.tables.exec = Jvm.exec) (hb : c.code = cc) {x y : Nat} (hx : x < 2 ^ 31) (hy0 : 0 < y) (hy : y < 2 ^ 31) (hdg : decode cc pc = .ok (.idiv, 1)) (k : W p l e R s m args below meth c H locs cells slots Q (F0 m (pc + 1) ls (.int (nI (x / y)) :: rest))) : W p l e R s m args below meth c H locs cells slots Q (F0 m pc ls (.int (nI y) :: .int (nI x) :: rest)) :=
  lv_idiv hexec hb hdg (nI_ne0 hy0 hy) (by rw [pk_div hx hy0 hy]; exact k)
theorem kx_irem (hexec : p.tables.exec = Jvm.exec) (hb : c.code = cc) {x y : Nat} (hx : x < 2 ^ 31) (hy0 : 0 < y) (hy : y < 2 ^ 31) (hdg : decode cc pc = .ok (.irem, 1)) (k : W p l e R s m args below meth c H locs cells slots Q (F0 m (pc + 1) ls (.int (nI (x % y)) :: rest))) : W p l e R s m args below meth c H locs cells slots Q (F0 m pc ls (.int (nI y) :: .int (nI x) :: rest)) :=
  lv_irem hexec hb hdg (nI_ne0 hy0 hy) (by rw [pk_rem hx hy0 hy]; exact k)
end KY
