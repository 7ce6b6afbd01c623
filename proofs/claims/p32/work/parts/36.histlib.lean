/-! the saved halls -/
def rot {α : Type} (f : Nat → α) : Nat → α := fun i => if i = 5 then f 0 else f (i + 1)
abbrev KWz (h : Nat → Nat) (kb : Nat → Nat → Nat) (cI cH : ClassId) (n : Int32) (kf : Nat → Option Nat) (q0 q1 q2 q3 q4 q5 : ZZ) : va_W := [(h 0, .inr (1, [.ref (h 1), .int n])), (h 1, .inl (cH, 6, .inr (.inr (.inr (.inr kf)))))] ++ (HW (kb 0) cI q0 ++ (HW (kb 1) cI q1 ++ (HW (kb 2) cI q2 ++ (HW (kb 3) cI q3 ++ (HW (kb 4) cI q4 ++ HW (kb 5) cI q5)))))
abbrev KW (h : Nat → Nat) (kb : Nat → Nat → Nat) (cI cH : ClassId) (n : Int32) (q : Nat → ZZ) : va_W := KWz h kb cI cH n (fun i => some (kb i 0)) (q 0) (q 1) (q 2) (q 3) (q 4) (q 5)
def qset (q : Nat → ZZ) (n : Nat) (z : ZZ) : Nat → ZZ := fun i => if i = n then z else q i
def kbK (n : Nat) (kb : Nat → Nat → Nat) : Nat → Nat → Nat := if n = 6 then rot kb else kb
def qK (n : Nat) (q : Nat → ZZ) (z : ZZ) : Nat → ZZ := if n = 6 then qset (rot q) 5 z else qset q n z
def nK (n : Nat) : Nat := if n = 6 then 6 else n + 1
def zU (n : Nat) (q : Nat → ZZ) (z : ZZ) : ZZ := if n = 0 then z else q (n - 1)
section KH
variable {p : Program} {l : Launch} {e : Env} {R : Room} {s : State} {m : MethodId} {args : Array Value} {below : List Frame} {meth : Method} {c : Code} {H : Heap} {locs : List Loc} {cells slots : Nat} {Q : State → Prop}
variable {cc : ByteArray} {pc : Nat} {ls : Array Slot} {rest : List Value} {D : va_G} {cl : List vw_C} {ws : va_W} {tys : List (ClassId × FieldType)} {A : Nat → Prop} {H0 : Heap} {q : Addr}
theorem kx_aldq (hexec : p.tables.exec = Jvm.exec) (hb : c.code = cc) (hK : va_K D cl tys s) (hP : va_P D cl ws H) (q0 t0 : Nat) {cA : ClassId} {C : String} {n : Nat} {f : Nat → Option Nat} (ha : ws[q0]? = some (q, .inl (cA, n, .inr (.inr (.inr (.inr f)))))) (ht : tys[t0]? = some (cA, .object C)) {x v : Nat} (h : x < n) (hn : n < 2 ^ 31) (hf : f x = some v) (hdg : decode cc pc = .ok (.aaload, 1))
    (kk : W p l e R s m args below meth c H locs cells slots Q (F0 m (pc + 1) ls (.ref v :: rest))) : W p l e R s m args below meth c H locs cells slots Q (F0 m pc ls (.int (nI x) :: .ref q :: rest)) :=
  va_aldq hexec hb hK hP q0 t0 ha ht (vp_in_nI h hn) hdg (by rw [nI_clamp (show x < 2 ^ 31 by omega), hf]; exact kk)
theorem kx_astq (hexec : p.tables.exec = Jvm.exec) (hb : c.code = cc) (hK : va_K D cl tys s) (hP : va_P D cl ws H) (hD : va_D A ws) (hS : va_S A H0 H locs) (q0 t0 qk ci : Nat) {cA : ClassId} {r : vw_C} {n v : Nat} {vs : List Value} {f : Nat → Option Nat} (ha : ws[q0]? = some (q, .inl (cA, n, .inr (.inr (.inr (.inr f)))))) (ht : tys[t0]? = some (cA, .object r.1)) (hv : ws[qk]? = some (v, .inr (ci, vs))) (hc : cl[ci]? = some r) {x : Nat} (h : x < n) (hn : n < 2 ^ 31) (hdg : decode cc pc = .ok (.aastore, 1))
    (kk : ∀ (H1 : Heap) (locs1 : List Loc), va_P D cl (ws.set q0 (q, .inl (cA, n, .inr (.inr (.inr (.inr (va_up f x (some v)))))))) H1 → va_D A (ws.set q0 (q, .inl (cA, n, .inr (.inr (.inr (.inr (va_up f x (some v)))))))) → va_S A H0 H1 locs1 → W p l e R s m args below meth c H1 locs1 cells slots Q (F0 m (pc + 1) ls rest)) : W p l e R s m args below meth c H locs cells slots Q (F0 m pc ls (.ref v :: .int (nI x) :: .ref q :: rest)) :=
  va_astq hexec hb hK hP hD hS q0 t0 qk ci ha ht hv hc (vp_in_nI h hn) hdg (by rw [nI_clamp (show x < 2 ^ 31 by omega)]; exact kk)
end KH
theorem rot_kf (kb : Nat → Nat → Nat) : ∀ j, j < 6 → va_up (va_up (va_up (va_up (va_up (va_up (fun i => some (kb i 0)) 0 (some (kb 1 0))) 1 (some (kb 2 0))) 2 (some (kb 3 0))) 3 (some (kb 4 0))) 4 (some (kb 5 0))) 5 (some (kb 0 0)) j = (fun i => some (rot kb i 0)) j := by
  intro j hj
  rcases (show j = 0 ∨ j = 1 ∨ j = 2 ∨ j = 3 ∨ j = 4 ∨ j = 5 by omega) with rfl | rfl | rfl | rfl | rfl | rfl <;> rfl
theorem cell_extq {cA : ClassId} {n : Nat} {f g : Nat → Option Nat} (h : ∀ j, j < n → f j = g j) : vp_cell cA (n, .inr (.inr (.inr (.inr f)))) = vp_cell cA (n, .inr (.inr (.inr (.inr g)))) := by
  rw [vp_cell_q, vp_cell_q]
  unfold arrV
  congr 2
  funext j
  show va_rf (f j.val) = va_rf (g j.val)
  rw [h j.val j.isLt]
theorem arr_extq {D : va_G} {cl : List vw_C} {ws : va_W} {H : Heap} (hP : va_P D cl ws H) (i : Nat) {q : Nat} {cA : ClassId} {n : Nat} {f g : Nat → Option Nat} (hi : ws[i]? = some (q, .inl (cA, n, .inr (.inr (.inr (.inr f)))))) (h : ∀ j, j < n → f j = g j) : va_P D cl (ws.set i (q, .inl (cA, n, .inr (.inr (.inr (.inr g)))))) H := by
  intro k e hk
  have hl : i < ws.length := (List.getElem?_eq_some_iff.mp hi).1
  by_cases hki : k = i
  · subst hki
    rw [List.getElem?_set_self hl] at hk
    obtain rfl := Option.some.inj hk
    have h1 := hP k _ hi
    show H[q]? = some (vp_cell cA (n, .inr (.inr (.inr (.inr g)))))
    rw [← cell_extq h]; exact h1
  · rw [List.getElem?_set_ne (Ne.symm hki)] at hk
    exact hP k e hk
