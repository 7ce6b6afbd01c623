/-! the start: what the Statement gives, in the words of the contracts -/
theorem tbl_in {w : Cond} (h : w ∈ tables_1) : w ∈ lw_tbl := by unfold lw_tbl; exact List.mem_append_right _ h
section START
variable {s : State} {b : Nat}
theorem st_B (hts0 : ∀ w ∈ lw_tbl, w.before #[Value.ref b] s = true) : ∀ w ∈ xB, w.before #[] s = true := by
  have hin : ∀ w ∈ xB, w ∈ tables_1 := by
    intro w hw
    simp only [xB, List.mem_cons, List.not_mem_nil, or_false] at hw
    rcases hw with rfl | rfl | rfl | rfl | rfl | rfl
    · exact List.mem_of_getElem? (i := 435) (by decide +kernel)
    · exact List.mem_of_getElem? (i := 437) (by decide +kernel)
    · exact List.mem_of_getElem? (i := 439) (by decide +kernel)
    · exact List.mem_of_getElem? (i := 433) (by decide +kernel)
    · exact List.mem_of_getElem? (i := 510) (by decide +kernel)
    · exact List.mem_of_getElem? (i := 546) (by decide +kernel)
  intro w hw
  exact va_tabs (xB_ot w hw) rfl (hts0 w (tbl_in (hin w hw)))
theorem st_N (hts0 : ∀ w ∈ lw_tbl, w.before #[Value.ref b] s = true) : xN s :=
  ⟨va_AO.of (hts0 _ (tbl_in (List.mem_of_getElem? (i := 107) (by decide +kernel)))),
   va_Nw.of rfl (hts0 _ (tbl_in (List.mem_of_getElem? (i := 27) (by decide +kernel)))),
   va_Nw.of rfl (hts0 _ (tbl_in (List.mem_of_getElem? (i := 108) (by decide +kernel)))),
   va_Nw.of rfl (hts0 _ (tbl_in (List.mem_of_getElem? (i := 33) (by decide +kernel)))),
   va_Nw.of rfl (hts0 _ (tbl_in (List.mem_of_getElem? (i := 119) (by decide +kernel))))⟩
theorem vkR_of {args : Array Value} {own tx : String} {k : Nat} (h1 : (Cond.stringRef own k tx).before args s = true) (h2 : (Cond.exactly (Term.string own k) "java/lang/String").before args s = true) : ∃ sa : Nat, vk_R own k tx sa s := by
  obtain ⟨a, c, cA, kA, q1, -⟩ := Cond.exactly_spec (args := args) (first := s) (o := none) (s := s) (idx := []) (t := Term.string own k) (cls := "java/lang/String") h2
  exact ⟨a, vk_R.of h1 q1⟩
theorem st_T (hts0 : ∀ w ∈ lw_tbl, w.before #[Value.ref b] s = true) (hs : ∀ c ∈ flatC (Jvm.Cond.and given_1 narrow_1), c.before #[Value.ref b] s = true) : ∀ q ∈ xTx, ∃ sa : Nat, vk_R RX4 q.1 q.2 sa s := by
  intro q hq
  have h1 : ∀ q ∈ xTx, Cond.stringRef RX4 q.1 q.2 ∈ tables_1 := by decide +kernel
  have h2 : ∀ q ∈ xTx, Cond.exactly (Term.string RX4 q.1) "java/lang/String" ∈ flatC (Jvm.Cond.and given_1 narrow_1) := by decide +kernel
  exact vkR_of (hts0 _ (tbl_in (h1 q hq))) (hs _ (h2 q hq))
theorem st_F (hts0 : ∀ w ∈ lw_tbl, w.before #[Value.ref b] s = true) (hs : ∀ c ∈ flatC (Jvm.Cond.and given_1 narrow_1), c.before #[Value.ref b] s = true) : xF s :=
  ⟨st_B hts0, st_T hts0 hs, va_Nc.of (hs (Cond.not (.castable eIS eIA)) (by decide +kernel)), va_Nc.of (hs (Cond.not (.castable eIA eIO)) (by decide +kernel)), va_Nc.of (hs (Cond.not (.castable eIS eIO)) (by decide +kernel))⟩
theorem kZ_of {args : Array Value} {C n d : String} {ty : FieldType} {f : ZZ} {A : Nat → Prop} (hl : (Cond.laysStatic C n d).before args s = true) (hini : (Cond.initialized C).before args s = true) (harr : (Cond.arrayOf (.static C n d) ty).before args s = true) (hlen : (Cond.eq (.length (.static C n d)) (.int (Int32.ofNat 3))).before args s = true)
    (h0 : (Cond.eq (.elem (.static C n d) (.int (Int32.ofNat 0))) (.int (f 0))).before args s = true) (h1 : (Cond.eq (.elem (.static C n d) (.int (Int32.ofNat 1))) (.int (f 1))).before args s = true) (h2 : (Cond.eq (.elem (.static C n d) (.int (Int32.ofNat 2))) (.int (f 2))).before args s = true) (hA : ∀ a : Nat, a < s.heap.size → ¬ A a) : ∃ t : Nat, kZ C n d ty t 3 f A s s.heap := by
  obtain ⟨t, ht, hT⟩ := va_Tof (N := 3) (f := fun j => .int (f j)) (by decide) harr (va_eqt hlen) (fun j hj => by
    rcases (show j = 0 ∨ j = 1 ∨ j = 2 by omega) with rfl | rfl | rfl
    · exact va_eqt h0
    · exact va_eqt h1
    · exact va_eqt h2) hA
  exact ⟨t, va_Zof hl hini ht hA, hT⟩
theorem st_X {A : Nat → Prop} (hts0 : ∀ w ∈ lw_tbl, w.before #[Value.ref b] s = true) (hs : ∀ c ∈ flatC (Jvm.Cond.and given_1 narrow_1), c.before #[Value.ref b] s = true) (hA : ∀ a : Nat, a < s.heap.size → ¬ A a) : ∃ y : Nat → Nat, hX y A s s.heap := by
  have i2 : (Cond.initialized "HallSights$RowsText").before #[Value.ref b] s = true := hts0 _ (tbl_in (List.mem_of_getElem? (i := 5) (by decide +kernel)))
  have i4 : (Cond.initialized "HallSights").before #[Value.ref b] s = true := hts0 _ (tbl_in (List.mem_of_getElem? (i := 1) (by decide +kernel)))
  have iT : (Cond.initialized Bundle.tN).before #[Value.ref b] s = true := hts0 _ (tbl_in (List.mem_of_getElem? (i := 7) (by decide +kernel)))
  obtain ⟨t0, h0⟩ := kZ_of (C := "HallSights$RowsText") (n := "LEAST_OF_PART") (d := "[I") (ty := .int) (f := lpA) (hts0 _ (tbl_in (List.mem_of_getElem? (i := 242) (by decide +kernel)))) i2 (hs _ (by decide +kernel)) (hs _ (by decide +kernel)) (hs _ (by decide +kernel)) (hs _ (by decide +kernel)) (hs _ (by decide +kernel)) hA
  obtain ⟨t1, h1⟩ := kZ_of (C := "HallSights$RowsText") (n := "MOST_OF_PART") (d := "[I") (ty := .int) (f := mpA) (hts0 _ (tbl_in (List.mem_of_getElem? (i := 244) (by decide +kernel)))) i2 (hs _ (by decide +kernel)) (hs _ (by decide +kernel)) (hs _ (by decide +kernel)) (hs _ (by decide +kernel)) (hs _ (by decide +kernel)) hA
  obtain ⟨t2, h2⟩ := kZ_of (C := "HallSights$RowsText") (n := "END_OF_PART") (d := "[C") (ty := .char) (f := epA) (hts0 _ (tbl_in (List.mem_of_getElem? (i := 250) (by decide +kernel)))) i2 (hs _ (by decide +kernel)) (hs _ (by decide +kernel)) (hs _ (by decide +kernel)) (hs _ (by decide +kernel)) (hs _ (by decide +kernel)) hA
  obtain ⟨t3, h3⟩ := kZ_of (C := "HallSights") (n := "LEAST_OF_SETTING") (d := "[I") (ty := .int) (f := lsA) (hts0 _ (tbl_in (List.mem_of_getElem? (i := 613) (by decide +kernel)))) i4 (hs _ (by decide +kernel)) (hs _ (by decide +kernel)) (hs _ (by decide +kernel)) (hs _ (by decide +kernel)) (hs _ (by decide +kernel)) hA
  obtain ⟨t4, h4⟩ := kZ_of (C := "HallSights") (n := "MOST_OF_SETTING") (d := "[I") (ty := .int) (f := msA) (hts0 _ (tbl_in (List.mem_of_getElem? (i := 615) (by decide +kernel)))) i4 (hs _ (by decide +kernel)) (hs _ (by decide +kernel)) (hs _ (by decide +kernel)) (hs _ (by decide +kernel)) (hs _ (by decide +kernel)) hA
  refine ⟨fun k => ([t0, t1, t2, t3, t4] : List Nat).getD k 0, ⟨h0, h1, h2, h3, h4⟩, ?_, ?_⟩
  · exact vx_Zqof (hts0 _ (tbl_in (List.mem_of_getElem? (i := 458) (by decide +kernel)))) iT (hs _ (by decide +kernel)) hA
  · exact vx_Zqof (hts0 _ (tbl_in (List.mem_of_getElem? (i := 460) (by decide +kernel)))) iT (hs _ (by decide +kernel)) hA
theorem arr_K {args : Array Value} {ty : FieldType} (h : (Cond.arrayClass ty).before args s = true) : ∃ cA : ClassId, ArrOfT s cA ty ∧ s.vm.findClass ("[" ++ ty.toString) = some cA := by
  obtain ⟨c, k, comp, h1, h2, h3⟩ := Cond.arrayClass_spec h
  exact ⟨c, fun n z => ⟨fun k h => (by cases h), k, h2, comp, h3⟩, h1⟩
theorem arr_KO {C : String} (h : va_AO C s) : ∃ cA : ClassId, ArrOfT s cA (.object C) ∧ va_RA s cA (.object C) := by
  obtain ⟨comp, c, k, h1, h2, h3, h4, h5⟩ := Cond.arrayOver_spec h
  exact ⟨c, fun n z => ⟨fun k h => (by cases h), k, h3, comp, h4⟩, k, comp, h3, h4, h1, h5⟩
end START
