/-! THE NUMBERS: the hall as one function z of 57 places (0..2 settings, 3 rows, 4 columns, 5 + 4r.. a row, 45 + 3k.. a column) -/
abbrev ZZ : Type := Nat → Int32
def nR (z : ZZ) : Nat := (z 3).toNatClampNeg
def nC (z : ZZ) : Nat := (z 4).toNatClampNeg
def nS (z : ZZ) (r : Nat) : Nat := (z (5 + 4 * r + 2)).toNatClampNeg
/-- the counts are in range -/
def WF (z : ZZ) : Prop := z 3 = nI (nR z) ∧ nR z ≤ 10 ∧ z 4 = nI (nC z) ∧ nC z ≤ 4 ∧ ∀ r, r < nR z → z (5 + 4 * r + 2) = nI (nS z r) ∧ nS z r ≤ 12
theorem wf_R {z : ZZ} (h : WF z) : z 3 = nI (nR z) := h.1
theorem wf_R10 {z : ZZ} (h : WF z) : nR z ≤ 10 := h.2.1
theorem wf_C {z : ZZ} (h : WF z) : z 4 = nI (nC z) := h.2.2.1
theorem wf_C4 {z : ZZ} (h : WF z) : nC z ≤ 4 := h.2.2.2.1
theorem wf_S {z : ZZ} (h : WF z) {r : Nat} (hr : r < nR z) : z (5 + 4 * r + 2) = nI (nS z r) := (h.2.2.2.2 r hr).1
theorem wf_S12 {z : ZZ} (h : WF z) {r : Nat} (hr : r < nR z) : nS z r ≤ 12 := (h.2.2.2.2 r hr).2
abbrev kT (cI cC cH cL : ClassId) : List (ClassId × FieldType) := [(cI, .int), (cC, .char), (cH, .object RX0)]
abbrev MW (a : Nat → Nat) (cI : ClassId) (z : ZZ) (st : Int32) (hs : ZZ) (le : Int32) (tx : ZZ) (th : Int32) (pa : ZZ) (rd nu pt : Int32) (wy : ZZ) (ha : Int64) : va_W := [(a 0, .inr (5, [.ref (a 1), .int st, .ref (a 2), .int le, .ref (a 3), .int th, .ref (a 4), .int rd, .int nu, .int pt, .ref (a 5), .long ha])), (a 1, .inl (cI, 57, .inl z)), (a 2, .inl (cI, 342, .inl hs)), (a 3, .inl (cI, 60, .inl tx)), (a 4, .inl (cI, 33, .inl pa)), (a 5, .inl (cI, 120, .inl wy))]
abbrev HR (b : Nat → Nat) (cI : ClassId) (ro : Int32) (di hg se ta : ZZ) (co : Int32) (cd cs ch sg : ZZ) : va_W := [(b 0, .inr (0, [.int ro, .ref (b 1), .ref (b 2), .ref (b 3), .ref (b 4), .int co, .ref (b 5), .ref (b 6), .ref (b 7), .ref (b 8)])), (b 1, .inl (cI, 10, .inl di)), (b 2, .inl (cI, 10, .inl hg)), (b 3, .inl (cI, 10, .inl se)), (b 4, .inl (cI, 10, .inl ta)), (b 5, .inl (cI, 4, .inl cd)), (b 6, .inl (cI, 4, .inl cs)), (b 7, .inl (cI, 4, .inl ch)), (b 8, .inl (cI, 3, .inl sg))]
abbrev HW (b : Nat → Nat) (cI : ClassId) (z : ZZ) : va_W := HR b cI (z 3) (fun j => z (5 + 4 * j)) (fun j => z (5 + 4 * j + 1)) (fun j => z (5 + 4 * j + 2)) (fun j => z (5 + 4 * j + 3)) (z 4) (fun j => z (45 + 3 * j)) (fun j => z (45 + 3 * j + 1)) (fun j => z (45 + 3 * j + 2)) z
abbrev SW (v : Nat → Nat) (o : Nat) (cI : ClassId) (lk : Int32) (pe cn rk : ZZ) : va_W := [(v 0, .inr (3, [.ref o, .int lk, .ref (v 1), .ref (v 2), .ref (v 3)])), (v 1, .inl (cI, 120, .inl pe)), (v 2, .inl (cI, 120, .inl cn)), (v 3, .inl (cI, 120, .inl rk))]
/-! loops: up and down -/
section LOOPS
variable {p : Program} {l : Launch} {e : Env} {R : Room} {s : State} {m : MethodId} {args : Array Value} {below : List Frame} {meth : Method} {c : Code} {cells slots : Nat} {Q : State → Prop} {pc : Nat}
section
variable {H : Heap} {locs : List Loc}
theorem kx_up (P : Nat → Array Slot → Prop) (lo hi : Nat) (hlo : lo ≤ hi) (ls : Array Slot) (h0 : P lo ls) (step : ∀ (k : Nat) (ls : Array Slot), lo ≤ k → k ≤ hi → P k ls → (∀ ls', k < hi → P (k + 1) ls' → W p l e R s m args below meth c H locs cells slots Q (F0 m pc ls' [])) → W p l e R s m args below meth c H locs cells slots Q (F0 m pc ls [])) : W p l e R s m args below meth c H locs cells slots Q (F0 m pc ls []) := by
  have K : ∀ (n k : Nat) (ls : Array Slot), hi - k < n → lo ≤ k → k ≤ hi → P k ls → W p l e R s m args below meth c H locs cells slots Q (F0 m pc ls []) := by
    intro n
    induction n with
    | zero => intro k ls h; omega
    | succ n ih => intro k ls h h1 h2 hp; exact step k ls h1 h2 hp (fun ls' hk hp' => ih (k + 1) ls' (by omega) (by omega) (by omega) hp')
  exact K (hi - lo + 1) lo ls (by omega) (Nat.le_refl _) hlo h0
theorem kx_dn (P : Nat → Array Slot → Prop) (lo hi : Nat) (hlo : lo ≤ hi) (ls : Array Slot) (h0 : P hi ls) (step : ∀ (k : Nat) (ls : Array Slot), lo ≤ k → k ≤ hi → P k ls → (∀ ls', lo < k → P (k - 1) ls' → W p l e R s m args below meth c H locs cells slots Q (F0 m pc ls' [])) → W p l e R s m args below meth c H locs cells slots Q (F0 m pc ls [])) : W p l e R s m args below meth c H locs cells slots Q (F0 m pc ls []) := by
  have K : ∀ (n k : Nat) (ls : Array Slot), k - lo < n → lo ≤ k → k ≤ hi → P k ls → W p l e R s m args below meth c H locs cells slots Q (F0 m pc ls []) := by
    intro n
    induction n with
    | zero => intro k ls h; omega
    | succ n ih => intro k ls h h1 h2 hp; exact step k ls h1 h2 hp (fun ls' hk hp' => ih (k - 1) ls' (by omega) (by omega) (by omega) hp')
  exact K (hi - lo + 1) hi ls (by omega) hlo (Nat.le_refl _) h0
end
theorem kx_upW (P : Nat → Heap → List Loc → Array Slot → Prop) (lo hi : Nat) (hlo : lo ≤ hi) (H : Heap) (lc : List Loc) (ls : Array Slot) (h0 : P lo H lc ls) (step : ∀ (k : Nat) (H : Heap) (lc : List Loc) (ls : Array Slot), lo ≤ k → k ≤ hi → P k H lc ls → (∀ H' lc' ls', k < hi → P (k + 1) H' lc' ls' → W p l e R s m args below meth c H' lc' cells slots Q (F0 m pc ls' [])) → W p l e R s m args below meth c H lc cells slots Q (F0 m pc ls [])) : W p l e R s m args below meth c H lc cells slots Q (F0 m pc ls []) := by
  have K : ∀ (n k : Nat) (H : Heap) (lc : List Loc) (ls : Array Slot), hi - k < n → lo ≤ k → k ≤ hi → P k H lc ls → W p l e R s m args below meth c H lc cells slots Q (F0 m pc ls []) := by
    intro n
    induction n with
    | zero => intro k H lc ls h; omega
    | succ n ih => intro k H lc ls h h1 h2 hp; exact step k H lc ls h1 h2 hp (fun H' lc' ls' hk hp' => ih (k + 1) H' lc' ls' (by omega) (by omega) (by omega) hp')
  exact K (hi - lo + 1) lo H lc ls (by omega) (Nat.le_refl _) hlo h0
theorem kx_dnW (P : Nat → Heap → List Loc → Array Slot → Prop) (lo hi : Nat) (hlo : lo ≤ hi) (H : Heap) (lc : List Loc) (ls : Array Slot) (h0 : P hi H lc ls) (step : ∀ (k : Nat) (H : Heap) (lc : List Loc) (ls : Array Slot), lo ≤ k → k ≤ hi → P k H lc ls → (∀ H' lc' ls', lo < k → P (k - 1) H' lc' ls' → W p l e R s m args below meth c H' lc' cells slots Q (F0 m pc ls' [])) → W p l e R s m args below meth c H lc cells slots Q (F0 m pc ls [])) : W p l e R s m args below meth c H lc cells slots Q (F0 m pc ls []) := by
  have K : ∀ (n k : Nat) (H : Heap) (lc : List Loc) (ls : Array Slot), k - lo < n → lo ≤ k → k ≤ hi → P k H lc ls → W p l e R s m args below meth c H lc cells slots Q (F0 m pc ls []) := by
    intro n
    induction n with
    | zero => intro k H lc ls h; omega
    | succ n ih => intro k H lc ls h h1 h2 hp; exact step k H lc ls h1 h2 hp (fun H' lc' ls' hk hp' => ih (k - 1) H' lc' ls' (by omega) (by omega) (by omega) hp')
  exact K (hi - lo + 1) hi H lc ls (by omega) hlo (Nat.le_refl _) h0
end LOOPS
/-- sums, counts -/
def sumN : Nat → (Nat → Nat) → Nat
  | 0, _ => 0
  | n + 1, f => sumN n f + f n
theorem sumN_s (n : Nat) (f : Nat → Nat) : sumN (n + 1) f = sumN n f + f n := rfl
theorem sumN_0 (f : Nat → Nat) : sumN 0 f = 0 := rfl
def sumI : Nat → (Nat → Int32) → Int32
  | 0, _ => nI 0
  | n + 1, f => sumI n f + f n
theorem sumI_s (n : Nat) (f : Nat → Int32) : sumI (n + 1) f = sumI n f + f n := rfl
def itN {α : Type} : Nat → (Nat → α → α) → α → α
  | 0, _, x => x
  | n + 1, f, x => f n (itN n f x)
theorem itN_s {α : Type} (n : Nat) (f : Nat → α → α) (x : α) : itN (n + 1) f x = f n (itN n f x) := rfl
def b2 (b : Bool) : Nat := if b = true then 1 else 0
/-- what the reference asks of a hall -/
def tk (z : ZZ) (r s : Nat) : Bool := decide ((z (5 + 4 * r + 3) >>> (nI s &&& 31)) &&& nI 1 = nI 1)
def side (z : ZZ) (r s : Nat) : Int32 := nI (2 * s) - (nI (nS z r) - nI 1)
def headP (z : ZZ) (r : Nat) : Int32 := ((z (5 + 4 * r + 1) + z 1) + z 2) - z 0
def eyeP (z : ZZ) (r : Nat) : Int32 := (z (5 + 4 * r + 1) + z 1) - z 0
def higher (z : ZZ) (a r : Nat) : Bool := !decide (headP z a * z (5 + 4 * r) ≤ eyeP z r * z (5 + 4 * a))
def absI (x : Int32) : Int32 := if x < 0 then -x else x
def nearH (z : ZZ) (a w r s : Nat) : Bool := !decide (z (5 + 4 * r) ≤ absI (side z a w * z (5 + 4 * r) - side z r s * z (5 + 4 * a)))
def blk (z : ZZ) (a w r s : Nat) : Bool := decide (a < r) && (higher z a r && nearH z a w r s)
def cblk (z : ZZ) (k r s : Nat) : Bool := !decide (z (5 + 4 * r) ≤ z (45 + 3 * k)) && !decide (z (45 + 3 * k + 2) * z (5 + 4 * r) < absI (z (45 + 3 * k + 1) * z (5 + 4 * r) - side z r s * z (45 + 3 * k)))
def pplA (z : ZZ) (a r s : Nat) : Nat := sumN (nS z a) fun w => b2 (tk z a w && blk z a w r s)
def people (z : ZZ) (r s : Nat) : Nat := sumN r fun a => pplA z a r s
def wthn (v lo hi : Int32) : Bool := !decide (v < lo) && !decide (hi < v)
def isRowB (z : ZZ) (r : Int32) : Bool := wthn r (nI 0) (nI (nR z) - nI 1)
def isColB (z : ZZ) (k : Int32) : Bool := wthn k (nI 0) (nI (nC z) - nI 1)
