/-- cells that agree where the array lies -/
theorem cell_ext {cA : ClassId} {n : Nat} {f g : ZZ} (h : ∀ j, j < n → f j = g j) : vp_cell cA (n, .inl f) = vp_cell cA (n, .inl g) := by
  rw [vp_cell_i, vp_cell_i]
  unfold arrV
  congr 2
  funext j
  show Value.int (f j.val) = Value.int (g j.val)
  rw [h j.val j.isLt]
theorem arr_ext {D : va_G} {cl : List vw_C} {ws : va_W} {H : Heap} (hP : va_P D cl ws H) (i : Nat) {q : Nat} {cA : ClassId} {n : Nat} {f g : ZZ} (hi : ws[i]? = some (q, .inl (cA, n, .inl f))) (h : ∀ j, j < n → f j = g j) : va_P D cl (ws.set i (q, .inl (cA, n, .inl g))) H := by
  intro k e hk
  have hl : i < ws.length := (List.getElem?_eq_some_iff.mp hi).1
  by_cases hki : k = i
  · subst hki
    rw [List.getElem?_set_self hl] at hk
    obtain rfl := Option.some.inj hk
    have h1 := hP k _ hi
    show H[q]? = some (vp_cell cA (n, .inl g))
    rw [← cell_ext h]; exact h1
  · rw [List.getElem?_set_ne (Ne.symm hki)] at hk
    exact hP k e hk
theorem hw_ext {D : va_G} {cl : List vw_C} {b : Nat → Nat} {cI : ClassId} {ro ro' : Int32} {di hg se ta : ZZ} {co co' : Int32} {cd cs ch sg : ZZ} {H : Heap} (hP : va_P D cl (HR b cI ro di hg se ta co cd cs ch sg) H) (di' hg' se' ta' cd' cs' ch' sg' : ZZ) (h0 : ro = ro') (h1 : ∀ j, j < 10 → di j = di' j) (h2 : ∀ j, j < 10 → hg j = hg' j) (h3 : ∀ j, j < 10 → se j = se' j) (h4 : ∀ j, j < 10 → ta j = ta' j) (h9 : co = co') (h5 : ∀ j, j < 4 → cd j = cd' j) (h6 : ∀ j, j < 4 → cs j = cs' j) (h7 : ∀ j, j < 4 → ch j = ch' j) (h8 : ∀ j, j < 3 → sg j = sg' j) : va_P D cl (HR b cI ro' di' hg' se' ta' co' cd' cs' ch' sg') H := by
  subst h0 h9
  have e1 : va_P D cl (HR b cI ro di' hg se ta co cd cs ch sg) H := arr_ext hP 1 rfl h1
  have e2 : va_P D cl (HR b cI ro di' hg' se ta co cd cs ch sg) H := arr_ext e1 2 rfl h2
  have e3 : va_P D cl (HR b cI ro di' hg' se' ta co cd cs ch sg) H := arr_ext e2 3 rfl h3
  have e4 : va_P D cl (HR b cI ro di' hg' se' ta' co cd cs ch sg) H := arr_ext e3 4 rfl h4
  have e5 : va_P D cl (HR b cI ro di' hg' se' ta' co cd' cs ch sg) H := arr_ext e4 5 rfl h5
  have e6 : va_P D cl (HR b cI ro di' hg' se' ta' co cd' cs' ch sg) H := arr_ext e5 6 rfl h6
  have e7 : va_P D cl (HR b cI ro di' hg' se' ta' co cd' cs' ch' sg) H := arr_ext e6 7 rfl h7
  exact arr_ext e7 8 rfl h8
theorem vaD_ext {A : Nat → Prop} {ws ws' : va_W} (h : ws.map (fun q => q.1) = ws'.map (fun q => q.1)) (hD : va_D A ws) : va_D A ws' := by
  have key : ∀ (k : Nat) (q : Nat × va_E), ws'[k]? = some q → ∃ p, ws[k]? = some p ∧ p.1 = q.1 := by
    intro k q hq
    have h1 : (ws'.map (fun q => q.1))[k]? = some q.1 := by rw [List.getElem?_map, hq]; rfl
    rw [← h, List.getElem?_map] at h1
    cases hw : ws[k]? with
    | none => rw [hw] at h1; cases h1
    | some p => rw [hw] at h1; exact ⟨p, rfl, Option.some.inj h1⟩
  refine ⟨fun i j p q hi hj hpq => ?_, fun k q hq => ?_⟩
  · obtain ⟨p1, a1, b1⟩ := key i p hi
    obtain ⟨q1, a2, b2⟩ := key j q hj
    exact hD.1 i j p1 q1 a1 a2 (by rw [b1, b2, hpq])
  · obtain ⟨p, a1, b1⟩ := key k q hq
    rw [← b1]; exact hD.2 k p a1
section KZ
variable {p : Program} {l : Launch} {e : Env} {R : Room} {s : State} {m : MethodId} {args : Array Value} {below : List Frame} {meth : Method} {c : Code} {H : Heap} {locs : List Loc} {cells slots : Nat} {Q : State → Prop}
variable {cc : ByteArray} {pc : Nat} {ls : Array Slot} {rest : List Value} {D : va_G} {cl : List vw_C} {ws : va_W} {tys : List (ClassId × FieldType)} {A : Nat → Prop} {H0 : Heap} {q : Addr}
theorem kx_copyi (hexec : p.tables.exec = Jvm.exec) (hb : c.code = cc) (hml : c.maxLocals = ls.size) {own : String} {index : Nat} (hown : s.vm.findClass own = some m.cls) (hlink : (Cond.methodLink own index arraycopyName).before args s = true) (hnat : (Cond.native arraycopyName).before args s = true) (hstat : (Cond.static arraycopyName).before args s = true) (hini : (Cond.initialized "java/lang/System").before args s = true)
    (hK : va_K D cl tys s) (hP : va_P D cl ws H) (hD : va_D A ws) (hS : va_S A H0 H locs) (q0 q1 t0 : Nat) {a0 : Nat} {c0 : ClassId} {n0 n1 : Nat} {f g : Nat → Int32} (ha0 : ws[q0]? = some (a0, .inl (c0, n0, .inl f))) (ha1 : ws[q1]? = some (q, .inl (c0, n1, .inl g))) (ht0 : tys[t0]? = some (c0, .int)) (N : Nat) (h0 : N ≤ n0) (h1 : N ≤ n1) (hN : N < 2 ^ 31)
    (hframes : 1 ≤ R.frames) (hlocals : (rest.map fun v => v.category).sum + (nativeFrameWords "java/lang/System" "arraycopy" 5 + 11) ≤ R.locals) (hdg : decode cc pc = .ok (.invokestatic index, 3))
    (kk : ∀ (H1 : Heap) (locs1 : List Loc), va_P D cl (ws.set q1 (q, .inl (c0, n1, .inl (va_cpy f g 0 0 N)))) H1 → va_D A (ws.set q1 (q, .inl (c0, n1, .inl (va_cpy f g 0 0 N)))) → va_S A H0 H1 locs1 → W p l e R s m args below meth c H1 locs1 cells slots Q (F0 m (pc + 3) ls rest)) : W p l e R s m args below meth c H locs cells slots Q (F0 m pc ls (.int (nI N) :: .int (nI 0) :: .ref q :: .int (nI 0) :: .ref a0 :: rest)) := by
  have e0 : (nI 0).toNatClampNeg = 0 := nI_clamp (by decide)
  have eN : (nI N).toNatClampNeg = N := nI_clamp hN
  refine va_copyi (a := q) hexec hb hml hown hlink hnat hstat hini hK hP hD hS q0 q1 t0 t0 ha0 ha1 ht0 ht0 rfl (nI_pos (by decide)) (nI_pos (by decide)) (nI_pos hN) (by rw [e0, eN]; omega) (by rw [e0, eN]; omega) (fun _ _ => rfl) hframes hlocals hdg ?_
  rw [e0, eN]
  exact kk
end KZ
def shA (f : ZZ) (k R : Nat) : ZZ := fun j => if k + 1 ≤ j ∧ j ≤ R then f (j - 1) else f j
def dlA (f : ZZ) (r k : Nat) : ZZ := fun j => if r ≤ j ∧ j + 1 < k then f (j + 1) else f j
def zrA (f : ZZ) (k : Nat) : ZZ := fun j => if j < k then nI 0 else f j
def bitsI (f m : Nat) : Int32 := ((nI 1 <<< (nI m &&& 31)) - nI 1) <<< (nI f &&& 31)
def occZ (z : ZZ) (r f m : Nat) : ZZ := upd z (5 + 4 * r + 3) (z (5 + 4 * r + 3) ||| bitsI f m)
def vacZ (z : ZZ) (r f : Nat) : ZZ := upd z (5 + 4 * r + 3) (z (5 + 4 * r + 3) &&& (bitsI f 1 ^^^ (-1)))
def freeB (z : ZZ) (r f m : Nat) : Bool := decide (z (5 + 4 * r + 3) &&& bitsI f m = 0)
theorem vaD_x {A : Nat → Prop} {ws ws' : va_W} (hD : va_D A ws) (h : ws.map (fun q => q.1) = ws'.map (fun q => q.1)) : va_D A ws' := vaD_ext h hD
theorem ins_3 {z : ZZ} (d hh s : Int32) : insZ z d hh s 3 = nI (nR z + 1) := by
  unfold insZ; rw [upd_ne (by omega), upd_ne (by omega), upd_ne (by omega), upd_ne (by omega), upd_eq]
theorem ins_hi {z : ZZ} {d hh s : Int32} {j : Nat} (h : nR z < 10) (hj : j < 4 ∧ j ≠ 3 ∨ j = 4 ∨ 45 ≤ j) : insZ z d hh s j = z j := by
  have hk := insAt_b z d (nR z)
  unfold insZ; rw [upd_ne (by omega), upd_ne (by omega), upd_ne (by omega), upd_ne (by omega), upd_ne (by omega)]; unfold shZ; rw [if_neg (by omega)]
theorem ins_row {z : ZZ} {d hh s : Int32} {j w : Nat} (h : nR z < 10) (hj : j < 10) (hw : w < 4) (x : Int32) (hx : x = (if w = 0 then d else if w = 1 then hh else if w = 2 then s else nI 0)) : upd (shA (fun j => z (5 + 4 * j + w)) (insAt z d (nR z)) (nR z)) (insAt z d (nR z)) x j = insZ z d hh s (5 + 4 * j + w) := by
  have hk := insAt_b z d (nR z)
  generalize hq : insAt z d (nR z) = k at hk ⊢
  have e : insZ z d hh s = upd (upd (upd (upd (upd (shZ z k (nR z) 0) 3 (nI (nR z + 1))) (5 + 4 * k) d) (5 + 4 * k + 1) hh) (5 + 4 * k + 2) s) (5 + 4 * k + 3) (nI 0) := by unfold insZ; rw [hq]
  rw [e]
  by_cases hjk : j = k
  · subst hjk
    rw [upd_eq, hx]
    rcases (show w = 0 ∨ w = 1 ∨ w = 2 ∨ w = 3 by omega) with rfl | rfl | rfl | rfl
    · rw [upd_ne (by omega), upd_ne (by omega), upd_ne (by omega)]; exact upd_eq.symm
    · rw [upd_ne (by omega), upd_ne (by omega)]; exact upd_eq.symm
    · rw [upd_ne (by omega)]; exact upd_eq.symm
    · exact upd_eq.symm
  · rw [upd_ne hjk, upd_ne (by omega), upd_ne (by omega), upd_ne (by omega), upd_ne (by omega), upd_ne (by omega)]
    unfold shA shZ
    by_cases g : k + 1 ≤ j ∧ j ≤ nR z
    · rw [if_pos g, if_pos (by omega)]
      show z (5 + 4 * (j - 1) + w) = _
      congr 1; omega
    · rw [if_neg g, if_neg (by omega)]
