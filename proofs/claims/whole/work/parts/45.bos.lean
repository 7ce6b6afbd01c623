/-! the bits of a share -/
section KB
variable {p : Program} {l : Launch} {e : Env} {R : Room} {s : State} {m : MethodId} {args : Array Value} {below : List Frame} {meth : Method} {c : Code} {H : Heap} {locs : List Loc} {cells slots : Nat} {Q : State → Prop}
variable {cc : ByteArray} {pc : Nat} {ls : Array Slot} {rest : List Value}
def lcI (x y : Int64) : Int32 := if x > y then 1 else if x == y then 0 else -1
theorem kx_lcmp (hexec : p.tables.exec = Jvm.exec) (hb : c.code = cc) {x y : Int64} (hdg : decode cc pc = .ok (.lcmp, 1))
    (k : W p l e R s m args below meth c H locs cells slots Q (F0 m (pc + 1) ls (.int (lcI x y) :: rest))) : W p l e R s m args below meth c H locs cells slots Q (F0 m pc ls (.long y :: .long x :: rest)) := by
  intro T hT X
  obtain ⟨t, a, b⟩ := k T hT X
  refine ⟨t, ?_, b⟩
  jvm_step X.here [X.here.top, hexec, hb, hdg]
  by_cases h1 : y < x
  · rw [if_pos h1]
    have h3 : lcI x y = 1 := by unfold lcI; exact if_pos h1
    rw [h3] at a; exact a
  · rw [if_neg h1]
    by_cases h2 : x = y
    · rw [if_pos h2]
      have h3 : lcI x y = 0 := by unfold lcI; rw [if_neg h1, if_pos (by simp [h2])]
      rw [h3] at a; exact a
    · rw [if_neg h2]
      have h3 : lcI x y = -1 := by unfold lcI; rw [if_neg h1, if_neg (by simp [h2])]
      rw [h3] at a; exact a
end KB
def bosG (x : UInt64) : Bool := decide ((0 : Int32) ≤ Op.cmpValue (FP.dcmp x FP.dconst1) CmpOp.g)
def dbl (x : UInt64) : UInt64 := FP.dmul x 4611686018427387904
def dblN (k : Nat) (d : UInt64) : UInt64 := itN k (fun _ x => dbl x) d
theorem dblN_s (k : Nat) (d : UInt64) : dblN (k + 1) d = FP.dmul (dblN k d) 4611686018427387904 := rfl
def bosK : Nat → UInt64 → Nat
  | 0, _ => 0
  | f + 1, d => if bosG d = true then 0 else 1 + bosK f (dbl d)
theorem bosK_le (f : Nat) : ∀ d, bosK f d ≤ f := by
  induction f with
  | zero => intro d; exact Nat.le_refl _
  | succ f ih => intro d; unfold bosK; have := ih (dbl d); split <;> omega
def bosM (d : UInt64) : UInt64 := FP.dsub (dblN (bosK 8 d) d) FP.dconst1
def bosQ (d : UInt64) : Prop := (∀ j, j < bosK 8 d → bosG (dblN j d) = false ∧ vf_n64 (FP.dmul (dblN j d) 4611686018427387904)) ∧ bosG (dblN (bosK 8 d) d) = true ∧ vf_n64 (bosM d) ∧ vf_n64 (FP.dmul (bosM d) 4841369599423283200)
def bosP (d : UInt64) : Prop := (0 : Int32) < Op.cmpValue (FP.dcmp d FP.dconst0) CmpOp.g → bosQ d
def bosI (d : UInt64) : Int64 := if (0 : Int32) < Op.cmpValue (FP.dcmp d FP.dconst0) CmpOp.g then ((1023 - Int64.ofNat (bosK 8 d)) * 4503599627370496) + FP.d2l (FP.dmul (bosM d) 4841369599423283200) else 0
theorem lc_le : ∀ k, k ≤ 8 → ¬ lcI (1023 - Int64.ofNat k) 1 ≤ 0 := by decide
theorem lo_s : ∀ k, k ≤ 8 → (1023 - Int64.ofNat k) - 1 = 1023 - Int64.ofNat (k + 1) := by decide
theorem bosG_f {x : UInt64} (h : bosG x = false) : ¬ (0 : Int32) ≤ Op.cmpValue (FP.dcmp x FP.dconst1) CmpOp.g := of_decide_eq_false h
theorem bosG_t {x : UInt64} (h : bosG x = true) : (0 : Int32) ≤ Op.cmpValue (FP.dcmp x FP.dconst1) CmpOp.g := of_decide_eq_true h
theorem bosI_p {d : UInt64} (h : (0 : Int32) < Op.cmpValue (FP.dcmp d FP.dconst0) CmpOp.g) : ((1023 - Int64.ofNat (bosK 8 d)) * 4503599627370496) + FP.d2l (FP.dmul (FP.dsub (dblN (bosK 8 d) d) FP.dconst1) 4841369599423283200) = bosI d := by unfold bosI bosM; rw [if_pos h]
theorem bosI_n {d : UInt64} (h : ¬ (0 : Int32) < Op.cmpValue (FP.dcmp d FP.dconst0) CmpOp.g) : 0 = bosI d := by unfold bosI; rw [if_neg h]
