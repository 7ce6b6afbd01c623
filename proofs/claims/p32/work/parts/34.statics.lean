/-! arrays that the class keeps for itself (static), read only; contracts that need them -/
def kZ (C n d : String) (ty : FieldType) (t N : Nat) (f : ZZ) (A : Nat → Prop) (U : State) (H : Heap) : Prop := va_Z C n d (.ref t) A U H ∧ va_T ty t N (fun j => .int (f j)) A U H
def lpA : ZZ := fun j => if j = 0 then nI 1 else if j = 1 then nI 0 else nI 1
def mpA : ZZ := fun j => if j = 0 then nI 999 else if j = 1 then nI 999 else nI 12
def epA : ZZ := fun j => if j = 0 then nI 94 else if j = 1 then nI 42 else nI 59
def lsA : ZZ := fun j => if j = 0 then nI 0 else if j = 1 then nI 1 else nI 0
def msA : ZZ := fun j => if j = 0 then nI 999 else if j = 1 then nI 300 else nI 100
def zZ (y : Nat → Nat) (A : Nat → Prop) (U : State) (H : Heap) : Prop :=
  kZ "HallSights" "LEAST_OF_SETTING" "[I" .int (y 3) 3 lsA A U H ∧ kZ "HallSights" "MOST_OF_SETTING" "[I" .int (y 4) 3 msA A U H
theorem kZ.moved {C n d : String} {ty : FieldType} {t N : Nat} {f : ZZ} {A : Nat → Prop} {u U : State} {H : Heap} (hvm : u.vm.Alike U.vm) (h : kZ C n d ty t N f A u H) : kZ C n d ty t N f A U H := ⟨va_Z.moved hvm h.1, va_T.moved hvm h.2⟩
theorem kZ.kept {C n d : String} {ty : FieldType} {t N : Nat} {f : ZZ} {A : Nat → Prop} {U : State} {H H1 : Heap} (h : kZ C n d ty t N f A U H) (hq : ∀ a : Nat, a < H.size → ¬ A a → H1[a]? = H[a]?) : kZ C n d ty t N f A U H1 := ⟨h.1.kept hq, h.2.kept hq⟩
theorem kZ.narrow {C n d : String} {ty : FieldType} {t N : Nat} {f : ZZ} {A B : Nat → Prop} {U : State} {H : Heap} (h : kZ C n d ty t N f A U H) (hAB : ∀ q, B q → A q) : kZ C n d ty t N f B U H := ⟨h.1.narrow hAB, h.2.narrow hAB⟩
theorem zZ.moved {y : Nat → Nat} {A : Nat → Prop} {u U : State} {H : Heap} (hvm : u.vm.Alike U.vm) (h : zZ y A u H) : zZ y A U H := ⟨h.1.moved hvm, h.2.moved hvm⟩
theorem zZ.kept {y : Nat → Nat} {A : Nat → Prop} {U : State} {H H1 : Heap} (h : zZ y A U H) (hq : ∀ a : Nat, a < H.size → ¬ A a → H1[a]? = H[a]?) : zZ y A U H1 := ⟨h.1.kept hq, h.2.kept hq⟩
theorem zZ.narrow {y : Nat → Nat} {A B : Nat → Prop} {U : State} {H : Heap} (h : zZ y A U H) (hAB : ∀ q, B q → A q) : zZ y B U H := ⟨h.1.narrow hAB, h.2.narrow hAB⟩
def kwz (y : Nat → Nat) (av : List Value) (D : va_G) (ws : va_W) (tys : List (ClassId × FieldType)) : Array Value → State → Prop := fun v U => kw av D ws tys v U ∧ zZ y (kA ws) U U.heap
theorem kwz_blind {y : Nat → Nat} {av : List Value} {D : va_G} {ws : va_W} {tys : List (ClassId × FieldType)} : FrameBlind (kwz y av D ws tys) := fun a U g mk q => ⟨kw_blind a U g mk q.1, zZ.moved (u := U) (U := U.calling g mk a) (Vm.Alike.refl U.vm) q.2⟩
section KS
variable {p : Program} {l : Launch} {e : Env} {R : Room} {s : State} {m : MethodId} {args : Array Value} {below : List Frame} {meth : Method} {c : Code} {H : Heap} {locs : List Loc} {cells slots : Nat} {Q : State → Prop}
variable {cc : ByteArray} {pc : Nat} {ls : Array Slot} {rest : List Value} {D : va_G} {ws : va_W} {tys : List (ClassId × FieldType)} {A : Nat → Prop}
variable {y : MethodName} {bytes : ByteArray} {maxL nL n index : Nat} {ret : Option FieldType} {wds : List Cond} {rm : Room} {Ts : List Cond} {own C : String} {b : Addr} {As st0 : List Value} {wc wr w1 : va_W} {tc : List (ClassId × FieldType)} {v : Option Value} {zy : Nat → Nat}
theorem kz_V (S : CallFix p m c cc nL s args Ts own) (hM : Met l y wds rm (kwz zy (.ref b :: As) D wc tc) (kq D wc w1 (.returned v)) 0 0 (kA wc)) (cw : CallW R s args own C index y bytes maxL ret wds rm 0 0 n) (hP : va_P D vwCl ws H) (hD : va_D A ws) (hK : va_K D vwCl tc s) (hS : va_S A s.heap H locs) (hZ : zZ zy A s s.heap) (isC isR : List Nat)
    (hC0 : isC.filterMap (fun i => ws[i]?) = wc) (hC : isC.map (fun i => ws[i]?) = wc.map some) (hR : isR.map (fun i => ws[i]?) = wr.map some) (hnC : va_nd isC = true) (hnR : va_nd isR = true) (hdis : ∀ i ∈ isR, i ∉ isC) (hr : ∃ cell : Cell, H[b]? = some cell ∧ cell.vm.isStatics = false ∧ s.vm.findClass C = some cell.cls)
    (hn : As.length = n) (hz : ls.size = nL) (hst : st0 = As.reverse ++ .ref b :: rest) (hW : (rest.map fun v => v.category).sum ≤ 8) (hdg : decode cc pc = .ok (.invokevirtual index, 3)) (hf : cells + 0 ≤ R.cells ∧ slots + 0 ≤ R.slots) (kk : ∀ (H1 : Heap) (locs1 : List Loc), va_P D vwCl (wr ++ w1) H1 → va_D A (wr ++ w1) → va_S A s.heap H1 locs1 → W p l e R s m args below meth c H1 locs1 cells slots Q (F0 m (pc + 3) ls (v.toList ++ rest))) : W p l e R s m args below meth c H locs cells slots Q (F0 m pc ls st0) := by
  have hZ1 : zZ zy (kA wc) s H := (hZ.kept (fun a ha hn => hS.2.1 a ha hn)).narrow (kA_sub hD isC hC)
  have hrun := va_runV (H := H) (below := below) (meth := meth) (e := e) (locs := locs) (cells := cells) (slots := slots) (g := F0 m pc ls st0) (rest := rest) S hM cw ⟨kwz_blind, hr, fun U hU hWm => ⟨⟨rfl, by rw [hU]; exact hP.sub isC hC0, va_K.moved hWm.alike hK, (hD.sub isC hnC hC).weaken (fun _ _ _ _ => trivial)⟩, by rw [hU]; exact hZ1.moved hWm.alike⟩⟩ rfl hn hz hst (lv_room hW) hdg hf
  intro T hT X
  obtain ⟨v', st₀, t, T', L, h0, X', hL, e1, -, ⟨hv, hP1, hD1, hF1, hF2⟩, st⟩ := hrun T hT X
  cases hv
  rw [h0] at hF1 hF2
  obtain ⟨g1, g2⟩ := kj hP hD isC isR hC hR hnR hdis hF2 hP1 hD1
  obtain ⟨t2, a1, b1⟩ := kk t.heap _ g1 g2 (kS hS (kA_sub hD isC hC) hF1 hF2 hL) T' e1 X'
  exact ⟨t2, st t2 a1, b1⟩
theorem kx_ti (hexec : p.tables.exec = Jvm.exec) (hb : c.code = cc) {t N : Nat} {f : ZZ} (hT : va_T .int t N (fun j => .int (f j)) A s s.heap) (hS : va_S A s.heap H locs) {x : Nat} (h : x < N) (hN : N < 2 ^ 31) (hdg : decode cc pc = .ok (.iaload, 1))
    (kk : W p l e R s m args below meth c H locs cells slots Q (F0 m (pc + 1) ls (.int (f x) :: rest))) : W p l e R s m args below meth c H locs cells slots Q (F0 m pc ls (.int (nI x) :: .ref t :: rest)) :=
  va_ti hexec hb hT hS (vp_in_nI h hN) (v := .int (f x)) (by show Value.int (f (nI x).toNatClampNeg) = _; rw [nI_clamp (show x < 2 ^ 31 by omega)]) hdg kk
theorem kx_tc (hexec : p.tables.exec = Jvm.exec) (hb : c.code = cc) {t N : Nat} {f : ZZ} (hT : va_T .char t N (fun j => .int (f j)) A s s.heap) (hS : va_S A s.heap H locs) {x : Nat} (h : x < N) (hN : N < 2 ^ 31) (hdg : decode cc pc = .ok (.caload, 1))
    (kk : W p l e R s m args below meth c H locs cells slots Q (F0 m (pc + 1) ls (.int (f x) :: rest))) : W p l e R s m args below meth c H locs cells slots Q (F0 m pc ls (.int (nI x) :: .ref t :: rest)) :=
  va_tc hexec hb hT hS (vp_in_nI h hN) (v := .int (f x)) (by show Value.int (f (nI x).toNatClampNeg) = _; rw [nI_clamp (show x < 2 ^ 31 by omega)]) hdg kk
end KS
/-- the buffer's reader, as the class keeps it: the number that is read, whether it has begun, the numbers -/
abbrev CS : Type := Nat × Bool × ZZ
def isDg (c : Int32) : Bool := !decide (c < nI 48) && !decide (nI 57 < c)
def stepC (p : CS) (c : Int32) : CS := if isDg c = true then (if p.2.1 = false then (p.1, true, upd p.2.2 p.1 (c - nI 48)) else (p.1, true, upd p.2.2 p.1 (p.2.2 p.1 * nI 10 + (c - nI 48)))) else (if (p.2.1 && decide (c = epA (p.1 % 3))) = true then (p.1 + 1, false, p.2.2) else p)
def okC (p : CS) (c : Int32) : Bool := if isDg c = true then (if p.2.1 = false then !decide ((c - nI 48) < lpA (p.1 % 3)) else (!decide (p.2.2 p.1 ≤ 0) && !decide (mpA (p.1 % 3) < p.2.2 p.1 * nI 10 + (c - nI 48)))) else (p.2.1 && decide (c = epA (p.1 % 3)))
def dgF1 (b : Bool) (f : ZZ) (L : Nat) (d : Int32) : ZZ := if b = false then upd f L d else upd f L (f L * nI 10 + d)
def dgOk (b : Bool) (f : ZZ) (L : Nat) (d : Int32) : Bool := if b = false then !decide (d < lpA (L % 3)) else (!decide (f L ≤ 0) && !decide (mpA (L % 3) < f L * nI 10 + d))
def enOk (b : Bool) (L : Nat) (c : Int32) : Bool := b && decide (c = epA (L % 3))
def runC (tx f : ZZ) (k : Nat) : CS := itN k (fun j p => stepC p (tx j)) (0, false, f)
theorem runC_s (tx f : ZZ) (k : Nat) : runC tx f (k + 1) = stepC (runC tx f k) (tx k) := rfl
def eC (tx f : ZZ) : Nat → Nat
  | 0 => 0
  | k + 1 => if eC tx f k = k ∧ okC (runC tx f k) (tx k) = true then k + 1 else eC tx f k
theorem eC_s (tx f : ZZ) (k : Nat) : eC tx f (k + 1) = if eC tx f k = k ∧ okC (runC tx f k) (tx k) = true then k + 1 else eC tx f k := rfl
theorem eC_le (tx f : ZZ) (k : Nat) : eC tx f k ≤ k := by
  induction k with
  | zero => exact Nat.le_refl _
  | succ k ih => rw [eC_s]; split <;> omega
theorem eC_stop {tx f : ZZ} {k n : Nat} (h : eC tx f k = k) (hk : k < n) (hb : okC (runC tx f k) (tx k) = false) : eC tx f n = k := by
  induction n with
  | zero => omega
  | succ n ih =>
    rw [eC_s]
    rcases Nat.lt_or_ge k n with q | q
    · rw [ih q, if_neg (by omega)]
    · obtain rfl : k = n := by omega
      rw [if_neg (by rw [hb]; simp), h]
def finC (tx f : ZZ) (n : Nat) : CS := if eC tx f n = n then runC tx f n else stepC (runC tx f (eC tx f n)) (tx (eC tx f n))
theorem finC_a {tx f : ZZ} {n : Nat} (h : eC tx f n = n) : finC tx f n = runC tx f n := by unfold finC; rw [if_pos h]
theorem finC_b {tx f : ZZ} {k n : Nat} (h : eC tx f k = k) (hk : k < n) (hb : okC (runC tx f k) (tx k) = false) : finC tx f n = stepC (runC tx f k) (tx k) := by
  have h1 := eC_stop h hk hb
  unfold finC; rw [if_neg (by omega), h1]
theorem stepC_1 (p : CS) (c : Int32) : (stepC p c).1 ≤ p.1 + 1 := by
  unfold stepC
  by_cases h : isDg c = true
  · rw [if_pos h]
    by_cases h2 : p.2.1 = false
    · rw [if_pos h2]; exact Nat.le_succ _
    · rw [if_neg h2]; exact Nat.le_succ _
  · rw [if_neg h]
    by_cases h2 : (p.2.1 && decide (c = epA (p.1 % 3))) = true
    · rw [if_pos h2]; exact Nat.le_refl _
    · rw [if_neg h2]; exact Nat.le_succ _
theorem runC_1 (tx f : ZZ) (k : Nat) : (runC tx f k).1 ≤ k := by
  induction k with
  | zero => exact Nat.le_refl _
  | succ k ih => rw [runC_s]; have := stepC_1 (runC tx f k) (tx k); omega
abbrev TW (t : Nat → Nat) (cC cI : ClassId) (ts : ZZ) (tl : Int32) (tn : ZZ) (tt tb : Int32) : va_W := [(t 0, .inr (2, [.ref (t 1), .int tl, .ref (t 2), .int tt, .int tb])), (t 1, .inl (cC, 60, .inl ts)), (t 2, .inl (cI, 61, .inl tn))]
theorem tw_c {t : Nat → Nat} {cC cI : ClassId} {ts ts' : ZZ} {tl tl' : Int32} {tn tn' : ZZ} {tt tt' tb tb' : Int32} (h1 : ts = ts') (h2 : tl = tl') (h3 : tn = tn') (h4 : tt = tt') (h5 : tb = tb') : TW t cC cI ts tl tn tt tb = TW t cC cI ts' tl' tn' tt' tb' := by subst h1 h2 h3 h4 h5; rfl
theorem kx_castH {x : Nat} (h : x < 65536) : vp_nar .char (nI x) = nI x := by
  unfold vp_nar
  rw [(pk_charN h).1]
section KC
variable {p : Program} {l : Launch} {e : Env} {R : Room} {s : State} {m : MethodId} {args : Array Value} {below : List Frame} {meth : Method} {c : Code} {H : Heap} {locs : List Loc} {cells slots : Nat} {Q : State → Prop}
variable {cc : ByteArray} {pc : Nat} {ls : Array Slot} {rest : List Value} {D : va_G} {cl : List vw_C} {ws : va_W} {tys : List (ClassId × FieldType)} {A : Nat → Prop} {H0 : Heap} {q : Addr}
theorem kx_cast (hexec : p.tables.exec = Jvm.exec) (hb : c.code = cc) (hK : va_K D cl tys s) (hP : va_P D cl ws H) (hD : va_D A ws) (hS : va_S A H0 H locs) (q0 t0 : Nat) {cA : ClassId} {n : Nat} {f : Nat → Int32} (ha : ws[q0]? = some (q, .inl (cA, n, .inl f))) (ht : tys[t0]? = some (cA, .char)) {x v : Nat} (h : x < n) (hn : n < 2 ^ 31) (hv : v < 65536) (hdg : decode cc pc = .ok (.castore, 1))
    (kk : ∀ (H1 : Heap) (locs1 : List Loc), va_P D cl (ws.set q0 (q, .inl (cA, n, .inl (upd f x (nI v))))) H1 → va_D A (ws.set q0 (q, .inl (cA, n, .inl (upd f x (nI v))))) → va_S A H0 H1 locs1 → W p l e R s m args below meth c H1 locs1 cells slots Q (F0 m (pc + 1) ls rest)) : W p l e R s m args below meth c H locs cells slots Q (F0 m pc ls (.int (nI v) :: .int (nI x) :: .ref q :: rest)) :=
  va_cast hexec hb hK hP hD hS q0 t0 ha ht (vp_in_nI h hn) hdg (by rw [nI_clamp (show x < 2 ^ 31 by omega), kx_castH hv]; exact kk)
end KC
theorem kx_i2c {x : Nat} (h : x < 65536) : ((nI x).toUInt32 % 65536).toInt32 = nI x := by
  rw [pk_char, pk_tn (by omega), Nat.mod_eq_of_lt h]
theorem stepC_d {p : CS} {c : Int32} (h : isDg c = true) : stepC p c = (p.1, true, dgF1 p.2.1 p.2.2 p.1 (c - nI 48)) := by
  unfold stepC dgF1
  rw [if_pos h]
  by_cases h2 : p.2.1 = false
  · rw [if_pos h2, if_pos h2]
  · rw [if_neg h2, if_neg h2]
theorem stepC_e {p : CS} {c : Int32} (h : isDg c = false) : stepC p c = ((if enOk p.2.1 p.1 c = true then p.1 + 1 else p.1), (if enOk p.2.1 p.1 c = true then false else p.2.1), p.2.2) := by
  unfold stepC enOk
  rw [if_neg (by rw [h]; decide)]
  by_cases h2 : (p.2.1 && decide (c = epA (p.1 % 3))) = true
  · rw [if_pos h2, if_pos h2, if_pos h2]
  · rw [if_neg h2, if_neg h2, if_neg h2]
theorem okC_d {p : CS} {c : Int32} (h : isDg c = true) : okC p c = dgOk p.2.1 p.2.2 p.1 (c - nI 48) := by
  unfold okC dgOk; rw [if_pos h]
theorem okC_e {p : CS} {c : Int32} (h : isDg c = false) : okC p c = enOk p.2.1 p.1 c := by
  unfold okC enOk; rw [if_neg (by rw [h]; decide)]
def cmpB (ts f : ZZ) (n : Nat) : Bool := decide (eC ts f n = n) && ((finC ts f n).2.1 && decide ((finC ts f n).1 % 3 = 2))
theorem finC_1 (ts f : ZZ) (n : Nat) : (finC ts f n).1 ≤ n + 1 := by
  unfold finC
  split
  · have := runC_1 ts f n; omega
  · have h1 := runC_1 ts f (eC ts f n)
    have h2 := stepC_1 (runC ts f (eC ts f n)) (ts (eC ts f n))
    have h3 := eC_le ts f n
    omega
