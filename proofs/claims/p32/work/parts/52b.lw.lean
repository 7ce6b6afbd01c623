/-! small words of the law's three acts -/
theorem shR_at {z rf : ZZ} (h : RO z rf) {k : Nat} (h0 : 0 < k) (hk : k ≤ nR z) : shR rf k (nR z) 0 (4 * k - 4) = z (5 + 4 * (k - 1)) := by
  unfold shR
  rw [if_neg (by omega)]
  exact (h _ (by omega)).trans (congrArg z (by omega))
theorem can_of {z : ZZ} {d : Int32} (h10 : nR z < 10) (h : ∀ j, j < nR z → ¬ z (5 + 4 * j) = d) : canAdd z d = true := by
  unfold canAdd
  rw [decide_eq_true h10, Bool.true_and]
  exact allN_t fun k hk => by rw [decide_eq_false (h k hk)]; rfl
theorem nn_k {z nf : ZZ} {nk : Nat} (h : NN z nk nf) {k : Nat} (hk : k < 3) : nf (3 + k) = z k := by
  obtain ⟨n0, n1, n2, n3, n4, n5⟩ := h
  rcases (show k = 0 ∨ k = 1 ∨ k = 2 by omega) with rfl | rfl | rfl
  · exact n3
  · exact n4
  · exact n5
theorem wn_nI {a b n : Nat} (ha : a < 2 ^ 31) (hb : b < 2 ^ 31) (hn : n < 2 ^ 31) (h1 : a ≤ n) (h2 : n ≤ b) : wthn (nI n) (nI a) (nI b) = true := by
  unfold wthn
  rw [decide_eq_false (fun q => by have := (nI_ltI hn ha).mp q; omega), decide_eq_false (fun q => by have := (nI_ltI hb hn).mp q; omega)]; rfl
theorem vs_0 {k v : Nat} (h : k = 0) (hv : v ≤ 999) : isValB (nI k) (nI v) = true := by
  subst h; unfold isValB; rw [if_pos (by decide)]; exact wn_nI (by omega) (by omega) (by omega) (by omega) hv
theorem vs_1 {k v : Nat} (h : k = 1) (h1 : 1 ≤ v) (hv : v ≤ 300) : isValB (nI k) (nI v) = true := by
  subst h; unfold isValB; rw [if_neg (by decide), if_pos rfl]; exact wn_nI (by omega) (by omega) (by omega) h1 hv
theorem vs_2 {k v : Nat} (h : k = 2) (hv : v ≤ 100) : isValB (nI k) (nI v) = true := by
  subst h; unfold isValB; rw [if_neg (by decide), if_neg (by decide)]; exact wn_nI (by omega) (by omega) (by omega) (by omega) hv
theorem side6_0 : ∀ k, k < 13 → ¬ (nI k - nI 6) < -12 ∧ (nI k - nI 6) ≤ nI 12 := by decide +kernel
theorem side6 {k : Nat} (h : k < 13) : ¬ (nI k - nI 6) < -12 ∧ (nI k - nI 6) ≤ nI 12 := side6_0 k h
theorem pz_0 {z rf : ZZ} (h : RO z rf) {r : Nat} (hr : r < nR z) (f : Nat) : rf = upd rf (4 * r + 3) (partyZ z r f 0 (5 + 4 * r + 3)) := by
  have e : partyZ z r f 0 (5 + 4 * r + 3) = rf (4 * r + 3) := (ro_3 h hr).symm
  rw [e, upd_same]
theorem pz_s (z : ZZ) (r f k : Nat) : partyZ z r f (k + 1) (5 + 4 * r + 3) = partyZ z r f k (5 + 4 * r + 3) ||| (nI 1 <<< (nI (f + k) &&& 31)) := by
  show takeZ (partyZ z r f k) r (f + k) (5 + 4 * r + 3) = _
  unfold takeZ
  exact upd_eq
theorem b2_1 {b : Bool} (h : b2 b = 1) : b = true := by cases b; exact absurd h (by decide); rfl
theorem b2_n {b : Bool} (h : ¬ b2 b = 1) : b = false := by cases b; rfl; exact absurd rfl h
