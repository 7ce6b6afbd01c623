/-! pure facts on quotients and products of ints in range -/
theorem bm {x : Int} (h1 : -2147483648 ≤ x) (h2 : x < 2147483648) : x.bmod (2 ^ 32) = x := by
  rw [Int.bmod_def]; split <;> omega
theorem ti_mul {a b : Int32} (h1 : -2147483648 ≤ a.toInt * b.toInt) (h2 : a.toInt * b.toInt < 2147483648) : (a * b).toInt = a.toInt * b.toInt := by rw [Int32.toInt_mul]; exact bm h1 h2
theorem ti_add {a b : Int32} (h1 : -2147483648 ≤ a.toInt + b.toInt) (h2 : a.toInt + b.toInt < 2147483648) : (a + b).toInt = a.toInt + b.toInt := by rw [Int32.toInt_add]; exact bm h1 h2
theorem ti_sub {a b : Int32} (h1 : -2147483648 ≤ a.toInt - b.toInt) (h2 : a.toInt - b.toInt < 2147483648) : (a - b).toInt = a.toInt - b.toInt := by rw [Int32.toInt_sub]; exact bm h1 h2
theorem ti_neg {a : Int32} (h2 : -2147483648 < a.toInt) : (-a).toInt = -a.toInt := by
  have h3 := Int32.toInt_lt a
  rw [Int32.toInt_neg]; exact bm (by omega) (by omega)
theorem ti_div {a b : Int32} (h1 : -2147483648 ≤ a.toInt.tdiv b.toInt) (h2 : a.toInt.tdiv b.toInt < 2147483648) : (a / b).toInt = a.toInt.tdiv b.toInt := by rw [Int32.toInt_div]; exact bm h1 h2
theorem ti_nI {n : Nat} (h : n < 2 ^ 31) : (nI n).toInt = n := nI_toInt h
def fdI (x y : Int32) : Int32 := if 0 ≤ x ^^^ y then x / y else if (x / y) * y = x then x / y else x / y - nI 1
theorem neg_msb (x : Int32) : x.toBitVec.msb = decide (x.toInt < 0) := BitVec.msb_eq_toInt
theorem xor_nn {x y : Int32} (hx : 0 ≤ x.toInt) (hy : 0 ≤ y.toInt) : 0 ≤ x ^^^ y := by
  have h : (x ^^^ y).toBitVec.msb = false := by
    rw [Int32.toBitVec_xor, BitVec.msb_xor, neg_msb, neg_msb, decide_eq_false (by omega), decide_eq_false (by omega)]; rfl
  rw [neg_msb, decide_eq_false_iff_not] at h
  exact Int32.le_iff_toInt_le.mpr (by have : (0 : Int32).toInt = 0 := by decide
                                      omega)
theorem xor_np {x y : Int32} (hx : x.toInt < 0) (hy : 0 ≤ y.toInt) : ¬ 0 ≤ x ^^^ y := by
  have h : (x ^^^ y).toBitVec.msb = true := by
    rw [Int32.toBitVec_xor, BitVec.msb_xor, neg_msb, neg_msb, decide_eq_true hx, decide_eq_false (by omega)]; rfl
  rw [neg_msb, decide_eq_true_eq] at h
  intro q
  have := Int32.le_iff_toInt_le.mp q
  have h0 : (0 : Int32).toInt = 0 := by decide
  omega
theorem fd_up {h d n : Int32} (hv1 : -2000000 ≤ h.toInt * d.toInt) (hv2 : h.toInt * d.toInt ≤ 2000000) (hn1 : 1 ≤ n.toInt) (hn2 : n.toInt ≤ 999) : -(fdI ((-h) * d) n) = upw (h * d) n := by
  have e : (-h) * d = -(h * d) := Int32.neg_mul _ _
  rw [e]
  have hp : (h * d).toInt = h.toInt * d.toInt := ti_mul (by omega) (by omega)
  generalize h * d = v at hp ⊢
  generalize h.toInt * d.toInt = V at hp hv1 hv2
  have hng : (-v).toInt = -V := by rw [ti_neg (by omega), hp]
  have h0 : (0 : Int32).toInt = 0 := by decide
  unfold upw fdI
  by_cases hle : v ≤ 0
  · have hl := Int32.le_iff_toInt_le.mp hle
    rw [if_pos (xor_nn (by omega) (by omega)), if_pos hle]
  · have hl : ¬ v.toInt ≤ (0 : Int32).toInt := fun q => hle (Int32.le_iff_toInt_le.mpr q)
    rw [if_neg (xor_np (by omega) (by omega)), if_neg hle]
    have hV : 0 < V := by omega
    generalize hN : n.toInt = N at *
    have hq0 : (-V).tdiv N = -(V / N) := by
      rw [Int.neg_tdiv, Int.tdiv_eq_ediv_of_nonneg (by omega)]
    have hb1 : 0 ≤ V / N := Int.ediv_nonneg (by omega) (by omega)
    have hb2 : V / N ≤ V := Int.ediv_le_self _ (by omega)
    have hq : ((-v) / n).toInt = -(V / N) := by
      rw [ti_div (by rw [hng, hN, hq0]; omega) (by rw [hng, hN, hq0]; omega), hng, hN, hq0]
    have hmod : N * (V / N) + V % N = V := Int.mul_ediv_add_emod V N
    have hm1 : 0 ≤ V % N := Int.emod_nonneg _ (by omega)
    have hm2 : V % N < N := Int.emod_lt_of_pos _ (by omega)
    have h1I : (nI 1).toInt = 1 := by decide
    have hs : ((v + n) - nI 1).toInt = V + N - 1 := by
      rw [ti_sub (by rw [ti_add (by omega) (by omega)]; omega) (by rw [ti_add (by omega) (by omega)]; omega), ti_add (by omega) (by omega), hp, hN, h1I]
    have hr : (((v + n) - nI 1) / n).toInt = (V + N - 1) / N := by
      have g1 : (V + N - 1).tdiv N = (V + N - 1) / N := Int.tdiv_eq_ediv_of_nonneg (by omega)
      have g2 : 0 ≤ (V + N - 1) / N := Int.ediv_nonneg (by omega) (by omega)
      have g3 : (V + N - 1) / N ≤ V + N - 1 := Int.ediv_le_self _ (by omega)
      rw [ti_div (by rw [hs, hN, g1]; omega) (by rw [hs, hN, g1]; omega), hs, hN, g1]
    have hmul : (((-v) / n) * n).toInt = -(V / N) * N := by
      have g : N * (V / N) ≤ V := by omega
      have g0 : 0 ≤ N * (V / N) := Int.mul_nonneg (by omega) hb1
      have g1 : -(V / N) * N = -(N * (V / N)) := by rw [Int.neg_mul, Int.mul_comm]
      rw [ti_mul (by rw [hq, hN, g1]; omega) (by rw [hq, hN, g1]; omega), hq, hN]
    have g1 : -(V / N) * N = -(N * (V / N)) := by rw [Int.neg_mul, Int.mul_comm]
    by_cases hd : ((-v) / n) * n = -v
    · rw [if_pos hd]
      have h3 : (((-v) / n) * n).toInt = (-v).toInt := by rw [hd]
      rw [hmul, hng, g1] at h3
      refine Int32.toInt_inj.mp ?_
      rw [ti_neg (by rw [hq]; omega), hq, hr]
      have hz : V % N = 0 := by omega
      have : (V + N - 1) / N = V / N := by
        have e2 : V + N - 1 = (N - 1) + N * (V / N) := by omega
        rw [e2, Int.add_mul_ediv_left _ _ (by omega), Int.ediv_eq_zero_of_lt (by omega) (by omega)]; omega
      omega
    · rw [if_neg hd]
      have h3 : V % N ≠ 0 := by
        intro q
        refine hd (Int32.toInt_inj.mp ?_)
        rw [hmul, hng, g1]; omega
      refine Int32.toInt_inj.mp ?_
      rw [ti_neg (by rw [ti_sub (by rw [hq, h1I]; omega) (by rw [hq, h1I]; omega), hq, h1I]; omega), ti_sub (by rw [hq, h1I]; omega) (by rw [hq, h1I]; omega), hq, h1I, hr]
      have : (V + N - 1) / N = V / N + 1 := by
        have e2 : V + N - 1 = (V % N - 1) + N * (V / N + 1) := by rw [Int.mul_add]; omega
        rw [e2, Int.add_mul_ediv_left _ _ (by omega), Int.ediv_eq_zero_of_lt (by omega) (by omega)]; omega
      omega
def rng (x : Int32) (lo hi : Int) : Prop := lo ≤ x.toInt ∧ x.toInt ≤ hi
/-- what holds of a hall in use -/
def VAL (z : ZZ) : Prop := WF z ∧ WS z ∧ VT z ∧ (∀ r, r < nR z → rng (z (5 + 4 * r)) 1 999 ∧ rng (z (5 + 4 * r + 1)) 0 999 ∧ 1 ≤ nS z r) ∧ (rng (z 0) 0 999 ∧ rng (z 1) 1 300 ∧ rng (z 2) 0 100)
theorem val_wd {z : ZZ} (h : VAL z) : WD z := by
  intro r hr q
  have h1 := (h.2.2.2.1 r hr).1.1
  rw [q] at h1
  exact absurd h1 (by decide)
theorem head_ti {z : ZZ} (h : VAL z) {r : Nat} (hr : r < nR z) : -998 ≤ (headP z r).toInt ∧ (headP z r).toInt ≤ 1399 := by
  obtain ⟨a1, a2⟩ := (h.2.2.2.1 r hr).2.1
  obtain ⟨⟨b1, b2⟩, ⟨c1, c2⟩, ⟨d1, d2⟩⟩ := h.2.2.2.2
  unfold headP
  have e1 : (z (5 + 4 * r + 1) + z 1).toInt = (z (5 + 4 * r + 1)).toInt + (z 1).toInt := ti_add (by omega) (by omega)
  have e2 : (z (5 + 4 * r + 1) + z 1 + z 2).toInt = (z (5 + 4 * r + 1)).toInt + (z 1).toInt + (z 2).toInt := by rw [ti_add (by omega) (by omega), e1]
  rw [ti_sub (by omega) (by omega), e2]; omega
theorem mul_b {a b : Int} (h1 : -998 ≤ a) (h2 : a ≤ 1399) (h3 : 1 ≤ b) (h4 : b ≤ 999) : -2000000 ≤ a * b ∧ a * b ≤ 2000000 := by
  constructor
  · have : (-998) * b ≤ a * b := Int.mul_le_mul_of_nonneg_right h1 (by omega)
    omega
  · have : a * b ≤ 1399 * b := Int.mul_le_mul_of_nonneg_right h2 (by omega)
    omega
theorem hgt_eq {z : ZZ} (h : VAL z) {r a : Nat} (hr : r < nR z) (ha : a < nR z) : (-(fdI ((-headP z a) * z (5 + 4 * r)) (z (5 + 4 * a))) - z 1) + z 0 = hgtFor z r a := by
  obtain ⟨h1, h2⟩ := head_ti h ha
  obtain ⟨d1, d2⟩ := (h.2.2.2.1 r hr).1
  obtain ⟨n1, n2⟩ := (h.2.2.2.1 a ha).1
  obtain ⟨m1, m2⟩ := mul_b h1 h2 d1 d2
  unfold hgtFor
  rw [fd_up m1 m2 n1 n2]
theorem max1 {x : Int32} (h : 1 ≤ x.toInt) : (if nI 1 < x then x else nI 1) = x := by
  by_cases q : nI 1 < x
  · rw [if_pos q]
  · rw [if_neg q]
    have h1 : (nI 1).toInt = 1 := by decide
    have h2 : ¬ (nI 1).toInt < x.toInt := fun g => q (Int32.lt_iff_toInt_lt.mpr g)
    exact Int32.toInt_inj.mp (by omega)
