/-! the start: what the Statement gives, in the words of the contracts -/
theorem tbl_in {w : Cond} (h : w ∈ tables_1) : w ∈ lw_tbl := by unfold lw_tbl; exact List.mem_append_right _ h
section START
variable {s : State} {b : Nat}
theorem st_N (hts0 : ∀ w ∈ lw_tbl, w.before #[Value.ref b] s = true) : xN s :=
  ⟨va_AO.of (hts0 _ (tbl_in (List.mem_of_getElem? (i := 104) (by decide +kernel)))),
   va_Nw.of rfl (hts0 _ (tbl_in (List.mem_of_getElem? (i := 25) (by decide +kernel)))),
   va_Nw.of rfl (hts0 _ (tbl_in (List.mem_of_getElem? (i := 105) (by decide +kernel)))),
   va_Nw.of rfl (hts0 _ (tbl_in (List.mem_of_getElem? (i := 31) (by decide +kernel)))),
   va_Nw.of rfl (hts0 _ (tbl_in (List.mem_of_getElem? (i := 116) (by decide +kernel))))⟩
theorem kZ_of {args : Array Value} {C n d : String} {ty : FieldType} {f : ZZ} {A : Nat → Prop} (hl : (Cond.laysStatic C n d).before args s = true) (hini : (Cond.initialized C).before args s = true) (harr : (Cond.arrayOf (.static C n d) ty).before args s = true) (hlen : (Cond.eq (.length (.static C n d)) (.int (Int32.ofNat 3))).before args s = true)
    (h0 : (Cond.eq (.elem (.static C n d) (.int (Int32.ofNat 0))) (.int (f 0))).before args s = true) (h1 : (Cond.eq (.elem (.static C n d) (.int (Int32.ofNat 1))) (.int (f 1))).before args s = true) (h2 : (Cond.eq (.elem (.static C n d) (.int (Int32.ofNat 2))) (.int (f 2))).before args s = true) (hA : ∀ a : Nat, a < s.heap.size → ¬ A a) : ∃ t : Nat, kZ C n d ty t 3 f A s s.heap := by
  obtain ⟨t, ht, hT⟩ := va_Tof (N := 3) (f := fun j => .int (f j)) (by decide) harr (va_eqt hlen) (fun j hj => by
    rcases (show j = 0 ∨ j = 1 ∨ j = 2 by omega) with rfl | rfl | rfl
    · exact va_eqt h0
    · exact va_eqt h1
    · exact va_eqt h2) hA
  exact ⟨t, va_Zof hl hini ht hA, hT⟩
theorem st_Z {A : Nat → Prop} (hts0 : ∀ w ∈ lw_tbl, w.before #[Value.ref b] s = true) (hs : ∀ c ∈ flatC (Jvm.Cond.and given_1 narrow_1), c.before #[Value.ref b] s = true) (hA : ∀ a : Nat, a < s.heap.size → ¬ A a) : ∃ y : Nat → Nat, zZ y A s s.heap := by
  have i4 : (Cond.initialized "HallSights").before #[Value.ref b] s = true := (hts0 _ (tbl_in (List.mem_of_getElem? (i := 1) (by decide +kernel))))
  obtain ⟨t3, h3⟩ := kZ_of (C := "HallSights") (n := "LEAST_OF_SETTING") (d := "[I") (ty := .int) (f := lsA) (hts0 _ (tbl_in (List.mem_of_getElem? (i := 360) (by decide +kernel)))) i4 (hs _ (by decide +kernel)) (hs _ (by decide +kernel)) (hs _ (by decide +kernel)) (hs _ (by decide +kernel)) (hs _ (by decide +kernel)) hA
  obtain ⟨t4, h4⟩ := kZ_of (C := "HallSights") (n := "MOST_OF_SETTING") (d := "[I") (ty := .int) (f := msA) (hts0 _ (tbl_in (List.mem_of_getElem? (i := 362) (by decide +kernel)))) i4 (hs _ (by decide +kernel)) (hs _ (by decide +kernel)) (hs _ (by decide +kernel)) (hs _ (by decide +kernel)) (hs _ (by decide +kernel)) hA
  exact ⟨fun k => ([t3, t3, t3, t3, t4] : List Nat).getD k 0, h3, h4⟩
theorem arr_K {args : Array Value} {ty : FieldType} (h : (Cond.arrayClass ty).before args s = true) : ∃ cA : ClassId, ArrOfT s cA ty ∧ s.vm.findClass ("[" ++ ty.toString) = some cA := by
  obtain ⟨c, k, comp, h1, h2, h3⟩ := Cond.arrayClass_spec h
  exact ⟨c, fun n z => ⟨fun k h => (by cases h), k, h2, comp, h3⟩, h1⟩
theorem arr_KO {C : String} (h : va_AO C s) : ∃ cA : ClassId, ArrOfT s cA (.object C) ∧ va_RA s cA (.object C) := by
  obtain ⟨comp, c, k, h1, h2, h3, h4, h5⟩ := Cond.arrayOver_spec h
  exact ⟨c, fun n z => ⟨fun k h => (by cases h), k, h3, comp, h4⟩, k, comp, h3, h4, h1, h5⟩
end START
theorem val_z00 : VAL z00 := by
  have hR : nR z00 = 0 := by decide
  have hC : nC z00 = 0 := by decide
  refine ⟨⟨by decide, by decide, by decide, by decide, fun r hr => absurd hr (by rw [hR]; omega)⟩, fun a r _ hr => absurd hr (by rw [hR]; omega), fun r hr => absurd hr (by rw [hR]; omega), fun r hr => absurd hr (by rw [hR]; omega), ⟨?_, ?_, ?_⟩⟩
  · show (0 : Int) ≤ (nI 100).toInt ∧ (nI 100).toInt ≤ 999
    rw [nI_toInt (by omega)]; omega
  · show (1 : Int) ≤ (nI 120).toInt ∧ (nI 120).toInt ≤ 300
    rw [nI_toInt (by omega)]; omega
  · show (0 : Int) ≤ (nI 12).toInt ∧ (nI 12).toInt ≤ 100
    rw [nI_toInt (by omega)]; omega
theorem nR_z00 : nR z00 = 0 := by decide
theorem nC_z00 : nC z00 = 0 := by decide
theorem lv_zero : LV3 z00 false zz0 zz0 zz0 0 (upd (upd (upd zz0 3 (nI 100)) 4 (nI 120)) 5 (nI 12)) zz0 zz0 := ⟨val_z00, lkf, Nat.zero_le _, by rw [nR_z00]; omega, ⟨by decide, by decide, by decide, by decide, by decide, by decide⟩, fun j hj => absurd hj (by rw [nR_z00]; omega), fun j hj => absurd hj (by rw [nC_z00]; omega)⟩
