theorem k_X0_initS : yX0_init.cls ≠ "java/lang/invoke/MethodHandle" ∧ yX0_init.cls ≠ "java/lang/invoke/VarHandle" ∧ (parseMethodDescriptor yX0_init.desc).map (fun d => d.parameters.length) = some 0 := by decide +kernel
set_option maxRecDepth 20000 in
theorem iX2_init_2 : ∀ w ∈ wsX20, w ∈ wsX2_init := by decide +kernel
set_option maxHeartbeats 4000000 in
set_option maxRecDepth 100000 in
theorem c_X2_init (l : Launch) (D : va_G) (cI cC cH cL : ClassId) (sz : Nat) (t0 : Nat) : Met l yX2_init wsX2_init ({ frames := 1, cells := 2, slots := 121, locals := 20 }) (kcp [.ref t0] D ([(t0, .inr (2, [.null, .int 0, .null, .int 0, .int 0]))]) (kT cI cC cH cL) sz) (kcq D (va_A ([(t0, .inr (2, [.null, .int 0, .null, .int 0, .int 0]))]) sz) (fun w1 => ∃ t : Nat → Nat, t 0 = t0 ∧ w1 = TW t cC cI zz0 (nI 0) zz0 (nI 0) (nI 0))) 2 121 (va_A ([(t0, .inr (2, [.null, .int 0, .null, .int 0, .int 0]))]) sz) := by
  refine Met.ofW (cc := cX2_init) (maxL := 1) (ret := none) (by decide) rfl ?_
  intro p e s m args below meth c s₁ B hml hv
  obtain ⟨rfl, hsz, hP, hK, hD0, hN⟩ := hv
  have hx := B.exec
  have hb := B.bytes
  have hrt := B.returns
  have hts := atoms_spec (ws := wsX2_init) B.pre
  have hown : s.vm.findClass RX2 = some m.cls := findClass_of_methodNamed B.named
  have hlocks := B.notSynchronized
  have hin : meth.name = "<init>" := (name_of_methodNamed B.named B.method).1
  subst hsz
  have hD := hD0.self (sz := s.heap.size)
  generalize hAe : va_A ([(t0, .inr (2, [.null, .int 0, .null, .int 0, .int 0]))]) s.heap.size = A at hD ⊢
  have hA : ∀ q : Nat, s.heap.size ≤ q → A q := fun q h => by rw [← hAe]; exact Or.inr h
  have hS : va_S A s.heap s.heap [] := va_S.rf
  have hP : va_P D vwCl ([(t0, .inr (2, [.null, .int 0, .null, .int 0, .int 0]))]) s.heap := hP
  have hl := lv_entry ([.ref t0]) (n := 1) (Nat.le_of_ble_eq_true rfl)
  rw [lg_entry_eq]
  generalize (lg_sl ([.ref t0]) ++ List.replicate (1 - (lg_sl ([.ref t0])).length) Slot.unset).toArray = ls at hl ⊢
  have hl : lv_has ls 1 [(0, .ref t0)] := hl
  refine lv_aload_n hx hb dX2_init_0 rfl (lv_at hl 0 rfl) ?_
  refine W.objInit hx hb hown (hts (.methodLink RX2 3 objectInit) (List.mem_of_getElem? (i := 1) rfl)) (hts (.instanceMethod objectInit) (List.mem_of_getElem? (i := 2) rfl)) (hts (.code objectInit ⟨#[0xb1]⟩ 1 none) (List.mem_of_getElem? (i := 3) rfl)) rfl (by rw [hml]; exact hl.1) rfl dX2_init_1 (Nat.le_of_ble_eq_true rfl) (Nat.le_of_ble_eq_true rfl) ?_
  refine W.eq (g2 := F0 m 4 ls []) rfl ?_
  refine lv_aload_n hx hb dX2_init_4 rfl (lv_at hl 0 rfl) ?_
  refine lv_bipush (v := nI 60) hx hb dX2_init_5 (by decide) ?_
  refine kx_newa (atype := .char) (ty := .char) (a0 := (60, .inl zz0)) hx hb (hts (.arrayClass .char) (List.mem_of_getElem? (i := 4) rfl)) rfl hK hP hD hS hA 1 rfl (fun h => h) rfl (nI_pos (by decide)) (nI_clamp (by decide)) (Nat.le_of_ble_eq_true rfl) (Nat.le_of_ble_eq_true rfl) (Nat.le_of_ble_eq_true rfl) dX2_init_7 (fun q7_1 H hP hD hS => ?_)
  have hP : va_P D vwCl ([(t0, .inr (2, [.null, .int 0, .null, .int 0, .int 0]))] ++ ([(q7_1, .inl (cC, 60, .inl zz0))])) H := hP
  have hD : va_D A ([(t0, .inr (2, [.null, .int 0, .null, .int 0, .int 0]))] ++ ([(q7_1, .inl (cC, 60, .inl zz0))])) := hD
  refine W.widen (k := 1) (n := 60) (Nat.le_of_ble_eq_true rfl) (Nat.le_of_ble_eq_true rfl) ?_
  refine va_putF (D := D) (ci := 2) (v := .ref q7_1) (ty := (.array .char)) (C := RX2) (T := TX2) (N := 5) hx hb hts iX2_init_2 tyX2 tyX2_ok nmX2 hown hK hP hD hS 0 rfl rfl 0 (by decide) (hts (.fieldLink RX2 9 "HallSights$RowsText" "signs" "[C") (List.mem_of_getElem? (i := 5) rfl)) (fun _ h9 => h9) rfl hin rfl (by decide +kernel) rfl rfl (Nat.le_of_ble_eq_true rfl) dX2_init_9 (fun H locs hP hD hS => ?_)
  have hP : va_P D vwCl ([(t0, .inr (2, [.ref q7_1, .int 0, .null, .int 0, .int 0]))] ++ ([(q7_1, .inl (cC, 60, .inl zz0))])) H := hP
  have hD : va_D A ([(t0, .inr (2, [.ref q7_1, .int 0, .null, .int 0, .int 0]))] ++ ([(q7_1, .inl (cC, 60, .inl zz0))])) := hD
  refine lv_aload_n hx hb dX2_init_12 rfl (lv_at hl 0 rfl) ?_
  refine lv_bipush (v := nI 61) hx hb dX2_init_13 (by decide) ?_
  refine kx_newa (atype := .int) (ty := .int) (a0 := (61, .inl zz0)) hx hb (hts (.arrayClass .int) (List.mem_of_getElem? (i := 6) rfl)) rfl hK hP hD hS hA 0 rfl (fun h => h) rfl (nI_pos (by decide)) (nI_clamp (by decide)) (Nat.le_of_ble_eq_true rfl) (Nat.le_of_ble_eq_true rfl) (Nat.le_of_ble_eq_true rfl) dX2_init_15 (fun q15_2 H hP hD hS => ?_)
  have hP : va_P D vwCl ([(t0, .inr (2, [.ref q7_1, .int 0, .null, .int 0, .int 0]))] ++ ([(q7_1, .inl (cC, 60, .inl zz0))] ++ ([(q15_2, .inl (cI, 61, .inl zz0))]))) H := hP
  have hD : va_D A ([(t0, .inr (2, [.ref q7_1, .int 0, .null, .int 0, .int 0]))] ++ ([(q7_1, .inl (cC, 60, .inl zz0))] ++ ([(q15_2, .inl (cI, 61, .inl zz0))]))) := hD
  refine W.widen (k := 2) (n := 121) (Nat.le_of_ble_eq_true rfl) (Nat.le_of_ble_eq_true rfl) ?_
  refine va_putF (D := D) (ci := 2) (v := .ref q15_2) (ty := (.array .int)) (C := RX2) (T := TX2) (N := 5) hx hb hts iX2_init_2 tyX2 tyX2_ok nmX2 hown hK hP hD hS 0 rfl rfl 2 (by decide) (hts (.fieldLink RX2 15 "HallSights$RowsText" "numbers" "[I") (List.mem_of_getElem? (i := 7) rfl)) (fun _ h9 => h9) rfl hin rfl (by decide +kernel) rfl rfl (Nat.le_of_ble_eq_true rfl) dX2_init_17 (fun H locs hP hD hS => ?_)
  have hP : va_P D vwCl ([(t0, .inr (2, [.ref q7_1, .int 0, .ref q15_2, .int 0, .int 0]))] ++ ([(q7_1, .inl (cC, 60, .inl zz0))] ++ ([(q15_2, .inl (cI, 61, .inl zz0))]))) H := hP
  have hD : va_D A ([(t0, .inr (2, [.ref q7_1, .int 0, .ref q15_2, .int 0, .int 0]))] ++ ([(q7_1, .inl (cC, 60, .inl zz0))] ++ ([(q15_2, .inl (cI, 61, .inl zz0))]))) := hD
  have hP : va_P D vwCl (TW (fun k => ([t0, q7_1, q15_2] : List Nat).getD k 0) cC cI zz0 (nI 0) zz0 (nI 0) (nI 0)) H := hP
  have hD : va_D A (TW (fun k => ([t0, q7_1, q15_2] : List Nat).getD k 0) cC cI zz0 (nI 0) zz0 (nI 0) (nI 0)) := hD
  exact W.vret hx hb hrt (fun t ht _ => ⟨rfl, _, ⟨_, rfl, rfl⟩, by rw [ht]; exact hP, hD, hS.F ht⟩) hS.2.2 dX2_init_20 hlocks
set_option maxRecDepth 20000 in
theorem iX0_init_0 : ∀ w ∈ wsX00, w ∈ wsX0_init := by decide +kernel
set_option maxHeartbeats 4000000 in
set_option maxRecDepth 100000 in
theorem c_X0_init (l : Launch) (D : va_G) (cI cC cH cL : ClassId) (sz : Nat) (b0 : Nat) : Met l yX0_init wsX0_init ({ frames := 1, cells := 8, slots := 55, locals := 20 }) (kcp [.ref b0] D ([(b0, .inr (0, [.int 0, .null, .null, .null, .null, .int 0, .null, .null, .null, .null]))]) (kT cI cC cH cL) sz) (kcq D (va_A ([(b0, .inr (0, [.int 0, .null, .null, .null, .null, .int 0, .null, .null, .null, .null]))]) sz) (fun w1 => ∃ b : Nat → Nat, b 0 = b0 ∧ w1 = HW b cI z00)) 8 55 (va_A ([(b0, .inr (0, [.int 0, .null, .null, .null, .null, .int 0, .null, .null, .null, .null]))]) sz) := by
  refine Met.ofW (cc := cX0_init) (maxL := 1) (ret := none) (by decide) rfl ?_
  intro p e s m args below meth c s₁ B hml hv
  obtain ⟨rfl, hsz, hP, hK, hD0, hN⟩ := hv
  have hx := B.exec
  have hb := B.bytes
  have hrt := B.returns
  have hts := atoms_spec (ws := wsX0_init) B.pre
  have hown : s.vm.findClass RX0 = some m.cls := findClass_of_methodNamed B.named
  have hlocks := B.notSynchronized
  have hin : meth.name = "<init>" := (name_of_methodNamed B.named B.method).1
  subst hsz
  have hD := hD0.self (sz := s.heap.size)
  generalize hAe : va_A ([(b0, .inr (0, [.int 0, .null, .null, .null, .null, .int 0, .null, .null, .null, .null]))]) s.heap.size = A at hD ⊢
  have hA : ∀ q : Nat, s.heap.size ≤ q → A q := fun q h => by rw [← hAe]; exact Or.inr h
  have hS : va_S A s.heap s.heap [] := va_S.rf
  have hP : va_P D vwCl ([(b0, .inr (0, [.int 0, .null, .null, .null, .null, .int 0, .null, .null, .null, .null]))]) s.heap := hP
  have hl := lv_entry ([.ref b0]) (n := 1) (Nat.le_of_ble_eq_true rfl)
  rw [lg_entry_eq]
  generalize (lg_sl ([.ref b0]) ++ List.replicate (1 - (lg_sl ([.ref b0])).length) Slot.unset).toArray = ls at hl ⊢
  have hl : lv_has ls 1 [(0, .ref b0)] := hl
  refine lv_aload_n hx hb dX0_init_0 rfl (lv_at hl 0 rfl) ?_
  refine W.objInit hx hb hown (hts (.methodLink RX0 3 objectInit) (List.mem_of_getElem? (i := 1) rfl)) (hts (.instanceMethod objectInit) (List.mem_of_getElem? (i := 2) rfl)) (hts (.code objectInit ⟨#[0xb1]⟩ 1 none) (List.mem_of_getElem? (i := 3) rfl)) rfl (by rw [hml]; exact hl.1) rfl dX0_init_1 (Nat.le_of_ble_eq_true rfl) (Nat.le_of_ble_eq_true rfl) ?_
  refine W.eq (g2 := F0 m 4 ls []) rfl ?_
  refine lv_aload_n hx hb dX0_init_4 rfl (lv_at hl 0 rfl) ?_
  refine lv_bipush (v := nI 10) hx hb dX0_init_5 (by decide) ?_
  refine kx_newa (atype := .int) (ty := .int) (a0 := (10, .inl zz0)) hx hb (hts (.arrayClass .int) (List.mem_of_getElem? (i := 4) rfl)) rfl hK hP hD hS hA 0 rfl (fun h => h) rfl (nI_pos (by decide)) (nI_clamp (by decide)) (Nat.le_of_ble_eq_true rfl) (Nat.le_of_ble_eq_true rfl) (Nat.le_of_ble_eq_true rfl) dX0_init_7 (fun q7_1 H hP hD hS => ?_)
  have hP : va_P D vwCl ([(b0, .inr (0, [.int 0, .null, .null, .null, .null, .int 0, .null, .null, .null, .null]))] ++ ([(q7_1, .inl (cI, 10, .inl zz0))])) H := hP
  have hD : va_D A ([(b0, .inr (0, [.int 0, .null, .null, .null, .null, .int 0, .null, .null, .null, .null]))] ++ ([(q7_1, .inl (cI, 10, .inl zz0))])) := hD
  refine W.widen (k := 1) (n := 10) (Nat.le_of_ble_eq_true rfl) (Nat.le_of_ble_eq_true rfl) ?_
  refine va_putF (D := D) (ci := 0) (v := .ref q7_1) (ty := (.array .int)) (C := RX0) (T := TX0) (N := 10) hx hb hts iX0_init_0 tyX0 tyX0_ok nmX0 hown hK hP hD hS 0 rfl rfl 1 (by decide) (hts (.fieldLink RX0 9 "HallSights$Hall" "distances" "[I") (List.mem_of_getElem? (i := 5) rfl)) (fun _ h9 => h9) rfl hin rfl (by decide +kernel) rfl rfl (Nat.le_of_ble_eq_true rfl) dX0_init_9 (fun H locs hP hD hS => ?_)
  have hP : va_P D vwCl ([(b0, .inr (0, [.int 0, .ref q7_1, .null, .null, .null, .int 0, .null, .null, .null, .null]))] ++ ([(q7_1, .inl (cI, 10, .inl zz0))])) H := hP
  have hD : va_D A ([(b0, .inr (0, [.int 0, .ref q7_1, .null, .null, .null, .int 0, .null, .null, .null, .null]))] ++ ([(q7_1, .inl (cI, 10, .inl zz0))])) := hD
  refine lv_aload_n hx hb dX0_init_12 rfl (lv_at hl 0 rfl) ?_
  refine lv_bipush (v := nI 10) hx hb dX0_init_13 (by decide) ?_
  refine kx_newa (atype := .int) (ty := .int) (a0 := (10, .inl zz0)) hx hb (hts (.arrayClass .int) (List.mem_of_getElem? (i := 4) rfl)) rfl hK hP hD hS hA 0 rfl (fun h => h) rfl (nI_pos (by decide)) (nI_clamp (by decide)) (Nat.le_of_ble_eq_true rfl) (Nat.le_of_ble_eq_true rfl) (Nat.le_of_ble_eq_true rfl) dX0_init_15 (fun q15_2 H hP hD hS => ?_)
  have hP : va_P D vwCl ([(b0, .inr (0, [.int 0, .ref q7_1, .null, .null, .null, .int 0, .null, .null, .null, .null]))] ++ ([(q7_1, .inl (cI, 10, .inl zz0))] ++ ([(q15_2, .inl (cI, 10, .inl zz0))]))) H := hP
  have hD : va_D A ([(b0, .inr (0, [.int 0, .ref q7_1, .null, .null, .null, .int 0, .null, .null, .null, .null]))] ++ ([(q7_1, .inl (cI, 10, .inl zz0))] ++ ([(q15_2, .inl (cI, 10, .inl zz0))]))) := hD
  refine W.widen (k := 2) (n := 20) (Nat.le_of_ble_eq_true rfl) (Nat.le_of_ble_eq_true rfl) ?_
  refine va_putF (D := D) (ci := 0) (v := .ref q15_2) (ty := (.array .int)) (C := RX0) (T := TX0) (N := 10) hx hb hts iX0_init_0 tyX0 tyX0_ok nmX0 hown hK hP hD hS 0 rfl rfl 2 (by decide) (hts (.fieldLink RX0 15 "HallSights$Hall" "heights" "[I") (List.mem_of_getElem? (i := 6) rfl)) (fun _ h9 => h9) rfl hin rfl (by decide +kernel) rfl rfl (Nat.le_of_ble_eq_true rfl) dX0_init_17 (fun H locs hP hD hS => ?_)
  have hP : va_P D vwCl ([(b0, .inr (0, [.int 0, .ref q7_1, .ref q15_2, .null, .null, .int 0, .null, .null, .null, .null]))] ++ ([(q7_1, .inl (cI, 10, .inl zz0))] ++ ([(q15_2, .inl (cI, 10, .inl zz0))]))) H := hP
  have hD : va_D A ([(b0, .inr (0, [.int 0, .ref q7_1, .ref q15_2, .null, .null, .int 0, .null, .null, .null, .null]))] ++ ([(q7_1, .inl (cI, 10, .inl zz0))] ++ ([(q15_2, .inl (cI, 10, .inl zz0))]))) := hD
  refine lv_aload_n hx hb dX0_init_20 rfl (lv_at hl 0 rfl) ?_
  refine lv_bipush (v := nI 10) hx hb dX0_init_21 (by decide) ?_
  refine kx_newa (atype := .int) (ty := .int) (a0 := (10, .inl zz0)) hx hb (hts (.arrayClass .int) (List.mem_of_getElem? (i := 4) rfl)) rfl hK hP hD hS hA 0 rfl (fun h => h) rfl (nI_pos (by decide)) (nI_clamp (by decide)) (Nat.le_of_ble_eq_true rfl) (Nat.le_of_ble_eq_true rfl) (Nat.le_of_ble_eq_true rfl) dX0_init_23 (fun q23_3 H hP hD hS => ?_)
  have hP : va_P D vwCl ([(b0, .inr (0, [.int 0, .ref q7_1, .ref q15_2, .null, .null, .int 0, .null, .null, .null, .null]))] ++ ([(q7_1, .inl (cI, 10, .inl zz0))] ++ ([(q15_2, .inl (cI, 10, .inl zz0))] ++ ([(q23_3, .inl (cI, 10, .inl zz0))])))) H := hP
  have hD : va_D A ([(b0, .inr (0, [.int 0, .ref q7_1, .ref q15_2, .null, .null, .int 0, .null, .null, .null, .null]))] ++ ([(q7_1, .inl (cI, 10, .inl zz0))] ++ ([(q15_2, .inl (cI, 10, .inl zz0))] ++ ([(q23_3, .inl (cI, 10, .inl zz0))])))) := hD
  refine W.widen (k := 3) (n := 30) (Nat.le_of_ble_eq_true rfl) (Nat.le_of_ble_eq_true rfl) ?_
  refine va_putF (D := D) (ci := 0) (v := .ref q23_3) (ty := (.array .int)) (C := RX0) (T := TX0) (N := 10) hx hb hts iX0_init_0 tyX0 tyX0_ok nmX0 hown hK hP hD hS 0 rfl rfl 3 (by decide) (hts (.fieldLink RX0 18 "HallSights$Hall" "seats" "[I") (List.mem_of_getElem? (i := 7) rfl)) (fun _ h9 => h9) rfl hin rfl (by decide +kernel) rfl rfl (Nat.le_of_ble_eq_true rfl) dX0_init_25 (fun H locs hP hD hS => ?_)
  have hP : va_P D vwCl ([(b0, .inr (0, [.int 0, .ref q7_1, .ref q15_2, .ref q23_3, .null, .int 0, .null, .null, .null, .null]))] ++ ([(q7_1, .inl (cI, 10, .inl zz0))] ++ ([(q15_2, .inl (cI, 10, .inl zz0))] ++ ([(q23_3, .inl (cI, 10, .inl zz0))])))) H := hP
  have hD : va_D A ([(b0, .inr (0, [.int 0, .ref q7_1, .ref q15_2, .ref q23_3, .null, .int 0, .null, .null, .null, .null]))] ++ ([(q7_1, .inl (cI, 10, .inl zz0))] ++ ([(q15_2, .inl (cI, 10, .inl zz0))] ++ ([(q23_3, .inl (cI, 10, .inl zz0))])))) := hD
  refine lv_aload_n hx hb dX0_init_28 rfl (lv_at hl 0 rfl) ?_
  refine lv_bipush (v := nI 10) hx hb dX0_init_29 (by decide) ?_
  refine kx_newa (atype := .int) (ty := .int) (a0 := (10, .inl zz0)) hx hb (hts (.arrayClass .int) (List.mem_of_getElem? (i := 4) rfl)) rfl hK hP hD hS hA 0 rfl (fun h => h) rfl (nI_pos (by decide)) (nI_clamp (by decide)) (Nat.le_of_ble_eq_true rfl) (Nat.le_of_ble_eq_true rfl) (Nat.le_of_ble_eq_true rfl) dX0_init_31 (fun q31_4 H hP hD hS => ?_)
  have hP : va_P D vwCl ([(b0, .inr (0, [.int 0, .ref q7_1, .ref q15_2, .ref q23_3, .null, .int 0, .null, .null, .null, .null]))] ++ ([(q7_1, .inl (cI, 10, .inl zz0))] ++ ([(q15_2, .inl (cI, 10, .inl zz0))] ++ ([(q23_3, .inl (cI, 10, .inl zz0))] ++ ([(q31_4, .inl (cI, 10, .inl zz0))]))))) H := hP
  have hD : va_D A ([(b0, .inr (0, [.int 0, .ref q7_1, .ref q15_2, .ref q23_3, .null, .int 0, .null, .null, .null, .null]))] ++ ([(q7_1, .inl (cI, 10, .inl zz0))] ++ ([(q15_2, .inl (cI, 10, .inl zz0))] ++ ([(q23_3, .inl (cI, 10, .inl zz0))] ++ ([(q31_4, .inl (cI, 10, .inl zz0))]))))) := hD
  refine W.widen (k := 4) (n := 40) (Nat.le_of_ble_eq_true rfl) (Nat.le_of_ble_eq_true rfl) ?_
  refine va_putF (D := D) (ci := 0) (v := .ref q31_4) (ty := (.array .int)) (C := RX0) (T := TX0) (N := 10) hx hb hts iX0_init_0 tyX0 tyX0_ok nmX0 hown hK hP hD hS 0 rfl rfl 4 (by decide) (hts (.fieldLink RX0 21 "HallSights$Hall" "taken" "[I") (List.mem_of_getElem? (i := 8) rfl)) (fun _ h9 => h9) rfl hin rfl (by decide +kernel) rfl rfl (Nat.le_of_ble_eq_true rfl) dX0_init_33 (fun H locs hP hD hS => ?_)
  have hP : va_P D vwCl ([(b0, .inr (0, [.int 0, .ref q7_1, .ref q15_2, .ref q23_3, .ref q31_4, .int 0, .null, .null, .null, .null]))] ++ ([(q7_1, .inl (cI, 10, .inl zz0))] ++ ([(q15_2, .inl (cI, 10, .inl zz0))] ++ ([(q23_3, .inl (cI, 10, .inl zz0))] ++ ([(q31_4, .inl (cI, 10, .inl zz0))]))))) H := hP
  have hD : va_D A ([(b0, .inr (0, [.int 0, .ref q7_1, .ref q15_2, .ref q23_3, .ref q31_4, .int 0, .null, .null, .null, .null]))] ++ ([(q7_1, .inl (cI, 10, .inl zz0))] ++ ([(q15_2, .inl (cI, 10, .inl zz0))] ++ ([(q23_3, .inl (cI, 10, .inl zz0))] ++ ([(q31_4, .inl (cI, 10, .inl zz0))]))))) := hD
  refine lv_aload_n hx hb dX0_init_36 rfl (lv_at hl 0 rfl) ?_
  refine lv_iconst (v := nI 4) hx hb dX0_init_37 (by decide) ?_
  refine kx_newa (atype := .int) (ty := .int) (a0 := (4, .inl zz0)) hx hb (hts (.arrayClass .int) (List.mem_of_getElem? (i := 4) rfl)) rfl hK hP hD hS hA 0 rfl (fun h => h) rfl (nI_pos (by decide)) (nI_clamp (by decide)) (Nat.le_of_ble_eq_true rfl) (Nat.le_of_ble_eq_true rfl) (Nat.le_of_ble_eq_true rfl) dX0_init_38 (fun q38_5 H hP hD hS => ?_)
  have hP : va_P D vwCl ([(b0, .inr (0, [.int 0, .ref q7_1, .ref q15_2, .ref q23_3, .ref q31_4, .int 0, .null, .null, .null, .null]))] ++ ([(q7_1, .inl (cI, 10, .inl zz0))] ++ ([(q15_2, .inl (cI, 10, .inl zz0))] ++ ([(q23_3, .inl (cI, 10, .inl zz0))] ++ ([(q31_4, .inl (cI, 10, .inl zz0))] ++ ([(q38_5, .inl (cI, 4, .inl zz0))])))))) H := hP
  have hD : va_D A ([(b0, .inr (0, [.int 0, .ref q7_1, .ref q15_2, .ref q23_3, .ref q31_4, .int 0, .null, .null, .null, .null]))] ++ ([(q7_1, .inl (cI, 10, .inl zz0))] ++ ([(q15_2, .inl (cI, 10, .inl zz0))] ++ ([(q23_3, .inl (cI, 10, .inl zz0))] ++ ([(q31_4, .inl (cI, 10, .inl zz0))] ++ ([(q38_5, .inl (cI, 4, .inl zz0))])))))) := hD
  refine W.widen (k := 5) (n := 44) (Nat.le_of_ble_eq_true rfl) (Nat.le_of_ble_eq_true rfl) ?_
  refine va_putF (D := D) (ci := 0) (v := .ref q38_5) (ty := (.array .int)) (C := RX0) (T := TX0) (N := 10) hx hb hts iX0_init_0 tyX0 tyX0_ok nmX0 hown hK hP hD hS 0 rfl rfl 6 (by decide) (hts (.fieldLink RX0 24 "HallSights$Hall" "columnDistances" "[I") (List.mem_of_getElem? (i := 9) rfl)) (fun _ h9 => h9) rfl hin rfl (by decide +kernel) rfl rfl (Nat.le_of_ble_eq_true rfl) dX0_init_40 (fun H locs hP hD hS => ?_)
  have hP : va_P D vwCl ([(b0, .inr (0, [.int 0, .ref q7_1, .ref q15_2, .ref q23_3, .ref q31_4, .int 0, .ref q38_5, .null, .null, .null]))] ++ ([(q7_1, .inl (cI, 10, .inl zz0))] ++ ([(q15_2, .inl (cI, 10, .inl zz0))] ++ ([(q23_3, .inl (cI, 10, .inl zz0))] ++ ([(q31_4, .inl (cI, 10, .inl zz0))] ++ ([(q38_5, .inl (cI, 4, .inl zz0))])))))) H := hP
  have hD : va_D A ([(b0, .inr (0, [.int 0, .ref q7_1, .ref q15_2, .ref q23_3, .ref q31_4, .int 0, .ref q38_5, .null, .null, .null]))] ++ ([(q7_1, .inl (cI, 10, .inl zz0))] ++ ([(q15_2, .inl (cI, 10, .inl zz0))] ++ ([(q23_3, .inl (cI, 10, .inl zz0))] ++ ([(q31_4, .inl (cI, 10, .inl zz0))] ++ ([(q38_5, .inl (cI, 4, .inl zz0))])))))) := hD
  refine lv_aload_n hx hb dX0_init_43 rfl (lv_at hl 0 rfl) ?_
  refine lv_iconst (v := nI 4) hx hb dX0_init_44 (by decide) ?_
  refine kx_newa (atype := .int) (ty := .int) (a0 := (4, .inl zz0)) hx hb (hts (.arrayClass .int) (List.mem_of_getElem? (i := 4) rfl)) rfl hK hP hD hS hA 0 rfl (fun h => h) rfl (nI_pos (by decide)) (nI_clamp (by decide)) (Nat.le_of_ble_eq_true rfl) (Nat.le_of_ble_eq_true rfl) (Nat.le_of_ble_eq_true rfl) dX0_init_45 (fun q45_6 H hP hD hS => ?_)
  have hP : va_P D vwCl ([(b0, .inr (0, [.int 0, .ref q7_1, .ref q15_2, .ref q23_3, .ref q31_4, .int 0, .ref q38_5, .null, .null, .null]))] ++ ([(q7_1, .inl (cI, 10, .inl zz0))] ++ ([(q15_2, .inl (cI, 10, .inl zz0))] ++ ([(q23_3, .inl (cI, 10, .inl zz0))] ++ ([(q31_4, .inl (cI, 10, .inl zz0))] ++ ([(q38_5, .inl (cI, 4, .inl zz0))] ++ ([(q45_6, .inl (cI, 4, .inl zz0))]))))))) H := hP
  have hD : va_D A ([(b0, .inr (0, [.int 0, .ref q7_1, .ref q15_2, .ref q23_3, .ref q31_4, .int 0, .ref q38_5, .null, .null, .null]))] ++ ([(q7_1, .inl (cI, 10, .inl zz0))] ++ ([(q15_2, .inl (cI, 10, .inl zz0))] ++ ([(q23_3, .inl (cI, 10, .inl zz0))] ++ ([(q31_4, .inl (cI, 10, .inl zz0))] ++ ([(q38_5, .inl (cI, 4, .inl zz0))] ++ ([(q45_6, .inl (cI, 4, .inl zz0))]))))))) := hD
  refine W.widen (k := 6) (n := 48) (Nat.le_of_ble_eq_true rfl) (Nat.le_of_ble_eq_true rfl) ?_
  refine va_putF (D := D) (ci := 0) (v := .ref q45_6) (ty := (.array .int)) (C := RX0) (T := TX0) (N := 10) hx hb hts iX0_init_0 tyX0 tyX0_ok nmX0 hown hK hP hD hS 0 rfl rfl 7 (by decide) (hts (.fieldLink RX0 27 "HallSights$Hall" "columnSides" "[I") (List.mem_of_getElem? (i := 10) rfl)) (fun _ h9 => h9) rfl hin rfl (by decide +kernel) rfl rfl (Nat.le_of_ble_eq_true rfl) dX0_init_47 (fun H locs hP hD hS => ?_)
  have hP : va_P D vwCl ([(b0, .inr (0, [.int 0, .ref q7_1, .ref q15_2, .ref q23_3, .ref q31_4, .int 0, .ref q38_5, .ref q45_6, .null, .null]))] ++ ([(q7_1, .inl (cI, 10, .inl zz0))] ++ ([(q15_2, .inl (cI, 10, .inl zz0))] ++ ([(q23_3, .inl (cI, 10, .inl zz0))] ++ ([(q31_4, .inl (cI, 10, .inl zz0))] ++ ([(q38_5, .inl (cI, 4, .inl zz0))] ++ ([(q45_6, .inl (cI, 4, .inl zz0))]))))))) H := hP
  have hD : va_D A ([(b0, .inr (0, [.int 0, .ref q7_1, .ref q15_2, .ref q23_3, .ref q31_4, .int 0, .ref q38_5, .ref q45_6, .null, .null]))] ++ ([(q7_1, .inl (cI, 10, .inl zz0))] ++ ([(q15_2, .inl (cI, 10, .inl zz0))] ++ ([(q23_3, .inl (cI, 10, .inl zz0))] ++ ([(q31_4, .inl (cI, 10, .inl zz0))] ++ ([(q38_5, .inl (cI, 4, .inl zz0))] ++ ([(q45_6, .inl (cI, 4, .inl zz0))]))))))) := hD
  refine lv_aload_n hx hb dX0_init_50 rfl (lv_at hl 0 rfl) ?_
  refine lv_iconst (v := nI 4) hx hb dX0_init_51 (by decide) ?_
  refine kx_newa (atype := .int) (ty := .int) (a0 := (4, .inl zz0)) hx hb (hts (.arrayClass .int) (List.mem_of_getElem? (i := 4) rfl)) rfl hK hP hD hS hA 0 rfl (fun h => h) rfl (nI_pos (by decide)) (nI_clamp (by decide)) (Nat.le_of_ble_eq_true rfl) (Nat.le_of_ble_eq_true rfl) (Nat.le_of_ble_eq_true rfl) dX0_init_52 (fun q52_7 H hP hD hS => ?_)
  have hP : va_P D vwCl ([(b0, .inr (0, [.int 0, .ref q7_1, .ref q15_2, .ref q23_3, .ref q31_4, .int 0, .ref q38_5, .ref q45_6, .null, .null]))] ++ ([(q7_1, .inl (cI, 10, .inl zz0))] ++ ([(q15_2, .inl (cI, 10, .inl zz0))] ++ ([(q23_3, .inl (cI, 10, .inl zz0))] ++ ([(q31_4, .inl (cI, 10, .inl zz0))] ++ ([(q38_5, .inl (cI, 4, .inl zz0))] ++ ([(q45_6, .inl (cI, 4, .inl zz0))] ++ ([(q52_7, .inl (cI, 4, .inl zz0))])))))))) H := hP
  have hD : va_D A ([(b0, .inr (0, [.int 0, .ref q7_1, .ref q15_2, .ref q23_3, .ref q31_4, .int 0, .ref q38_5, .ref q45_6, .null, .null]))] ++ ([(q7_1, .inl (cI, 10, .inl zz0))] ++ ([(q15_2, .inl (cI, 10, .inl zz0))] ++ ([(q23_3, .inl (cI, 10, .inl zz0))] ++ ([(q31_4, .inl (cI, 10, .inl zz0))] ++ ([(q38_5, .inl (cI, 4, .inl zz0))] ++ ([(q45_6, .inl (cI, 4, .inl zz0))] ++ ([(q52_7, .inl (cI, 4, .inl zz0))])))))))) := hD
  refine W.widen (k := 7) (n := 52) (Nat.le_of_ble_eq_true rfl) (Nat.le_of_ble_eq_true rfl) ?_
  refine va_putF (D := D) (ci := 0) (v := .ref q52_7) (ty := (.array .int)) (C := RX0) (T := TX0) (N := 10) hx hb hts iX0_init_0 tyX0 tyX0_ok nmX0 hown hK hP hD hS 0 rfl rfl 8 (by decide) (hts (.fieldLink RX0 30 "HallSights$Hall" "columnHalves" "[I") (List.mem_of_getElem? (i := 11) rfl)) (fun _ h9 => h9) rfl hin rfl (by decide +kernel) rfl rfl (Nat.le_of_ble_eq_true rfl) dX0_init_54 (fun H locs hP hD hS => ?_)
  have hP : va_P D vwCl ([(b0, .inr (0, [.int 0, .ref q7_1, .ref q15_2, .ref q23_3, .ref q31_4, .int 0, .ref q38_5, .ref q45_6, .ref q52_7, .null]))] ++ ([(q7_1, .inl (cI, 10, .inl zz0))] ++ ([(q15_2, .inl (cI, 10, .inl zz0))] ++ ([(q23_3, .inl (cI, 10, .inl zz0))] ++ ([(q31_4, .inl (cI, 10, .inl zz0))] ++ ([(q38_5, .inl (cI, 4, .inl zz0))] ++ ([(q45_6, .inl (cI, 4, .inl zz0))] ++ ([(q52_7, .inl (cI, 4, .inl zz0))])))))))) H := hP
  have hD : va_D A ([(b0, .inr (0, [.int 0, .ref q7_1, .ref q15_2, .ref q23_3, .ref q31_4, .int 0, .ref q38_5, .ref q45_6, .ref q52_7, .null]))] ++ ([(q7_1, .inl (cI, 10, .inl zz0))] ++ ([(q15_2, .inl (cI, 10, .inl zz0))] ++ ([(q23_3, .inl (cI, 10, .inl zz0))] ++ ([(q31_4, .inl (cI, 10, .inl zz0))] ++ ([(q38_5, .inl (cI, 4, .inl zz0))] ++ ([(q45_6, .inl (cI, 4, .inl zz0))] ++ ([(q52_7, .inl (cI, 4, .inl zz0))])))))))) := hD
  refine lv_aload_n hx hb dX0_init_57 rfl (lv_at hl 0 rfl) ?_
  refine lv_iconst (v := nI 3) hx hb dX0_init_58 (by decide) ?_
  refine kx_newa (atype := .int) (ty := .int) (a0 := (3, .inl zz0)) hx hb (hts (.arrayClass .int) (List.mem_of_getElem? (i := 4) rfl)) rfl hK hP hD hS hA 0 rfl (fun h => h) rfl (nI_pos (by decide)) (nI_clamp (by decide)) (Nat.le_of_ble_eq_true rfl) (Nat.le_of_ble_eq_true rfl) (Nat.le_of_ble_eq_true rfl) dX0_init_59 (fun q59_8 H hP hD hS => ?_)
  have hP : va_P D vwCl ([(b0, .inr (0, [.int 0, .ref q7_1, .ref q15_2, .ref q23_3, .ref q31_4, .int 0, .ref q38_5, .ref q45_6, .ref q52_7, .null]))] ++ ([(q7_1, .inl (cI, 10, .inl zz0))] ++ ([(q15_2, .inl (cI, 10, .inl zz0))] ++ ([(q23_3, .inl (cI, 10, .inl zz0))] ++ ([(q31_4, .inl (cI, 10, .inl zz0))] ++ ([(q38_5, .inl (cI, 4, .inl zz0))] ++ ([(q45_6, .inl (cI, 4, .inl zz0))] ++ ([(q52_7, .inl (cI, 4, .inl zz0))] ++ ([(q59_8, .inl (cI, 3, .inl zz0))]))))))))) H := hP
  have hD : va_D A ([(b0, .inr (0, [.int 0, .ref q7_1, .ref q15_2, .ref q23_3, .ref q31_4, .int 0, .ref q38_5, .ref q45_6, .ref q52_7, .null]))] ++ ([(q7_1, .inl (cI, 10, .inl zz0))] ++ ([(q15_2, .inl (cI, 10, .inl zz0))] ++ ([(q23_3, .inl (cI, 10, .inl zz0))] ++ ([(q31_4, .inl (cI, 10, .inl zz0))] ++ ([(q38_5, .inl (cI, 4, .inl zz0))] ++ ([(q45_6, .inl (cI, 4, .inl zz0))] ++ ([(q52_7, .inl (cI, 4, .inl zz0))] ++ ([(q59_8, .inl (cI, 3, .inl zz0))]))))))))) := hD
  refine W.widen (k := 8) (n := 55) (Nat.le_of_ble_eq_true rfl) (Nat.le_of_ble_eq_true rfl) ?_
  refine lv_dup hx hb dX0_init_61 rfl ?_
  refine lv_iconst (v := nI 0) hx hb dX0_init_62 (by decide) ?_
  refine lv_bipush (v := nI 100) hx hb dX0_init_63 (by decide) ?_
  refine kx_iast hx hb hK hP hD hS 8 0 rfl rfl (by omega) (by decide) dX0_init_65 (fun H locs hP hD hS => ?_)
  have hP : va_P D vwCl ([(b0, .inr (0, [.int 0, .ref q7_1, .ref q15_2, .ref q23_3, .ref q31_4, .int 0, .ref q38_5, .ref q45_6, .ref q52_7, .null]))] ++ ([(q7_1, .inl (cI, 10, .inl zz0))] ++ ([(q15_2, .inl (cI, 10, .inl zz0))] ++ ([(q23_3, .inl (cI, 10, .inl zz0))] ++ ([(q31_4, .inl (cI, 10, .inl zz0))] ++ ([(q38_5, .inl (cI, 4, .inl zz0))] ++ ([(q45_6, .inl (cI, 4, .inl zz0))] ++ ([(q52_7, .inl (cI, 4, .inl zz0))] ++ ([(q59_8, .inl (cI, 3, .inl (upd zz0 0 (nI 100))))]))))))))) H := hP
  have hD : va_D A ([(b0, .inr (0, [.int 0, .ref q7_1, .ref q15_2, .ref q23_3, .ref q31_4, .int 0, .ref q38_5, .ref q45_6, .ref q52_7, .null]))] ++ ([(q7_1, .inl (cI, 10, .inl zz0))] ++ ([(q15_2, .inl (cI, 10, .inl zz0))] ++ ([(q23_3, .inl (cI, 10, .inl zz0))] ++ ([(q31_4, .inl (cI, 10, .inl zz0))] ++ ([(q38_5, .inl (cI, 4, .inl zz0))] ++ ([(q45_6, .inl (cI, 4, .inl zz0))] ++ ([(q52_7, .inl (cI, 4, .inl zz0))] ++ ([(q59_8, .inl (cI, 3, .inl (upd zz0 0 (nI 100))))]))))))))) := hD
  refine lv_dup hx hb dX0_init_66 rfl ?_
  refine lv_iconst (v := nI 1) hx hb dX0_init_67 (by decide) ?_
  refine lv_bipush (v := nI 120) hx hb dX0_init_68 (by decide) ?_
  refine kx_iast hx hb hK hP hD hS 8 0 rfl rfl (by omega) (by decide) dX0_init_70 (fun H locs hP hD hS => ?_)
  have hP : va_P D vwCl ([(b0, .inr (0, [.int 0, .ref q7_1, .ref q15_2, .ref q23_3, .ref q31_4, .int 0, .ref q38_5, .ref q45_6, .ref q52_7, .null]))] ++ ([(q7_1, .inl (cI, 10, .inl zz0))] ++ ([(q15_2, .inl (cI, 10, .inl zz0))] ++ ([(q23_3, .inl (cI, 10, .inl zz0))] ++ ([(q31_4, .inl (cI, 10, .inl zz0))] ++ ([(q38_5, .inl (cI, 4, .inl zz0))] ++ ([(q45_6, .inl (cI, 4, .inl zz0))] ++ ([(q52_7, .inl (cI, 4, .inl zz0))] ++ ([(q59_8, .inl (cI, 3, .inl (upd (upd zz0 0 (nI 100)) 1 (nI 120))))]))))))))) H := hP
  have hD : va_D A ([(b0, .inr (0, [.int 0, .ref q7_1, .ref q15_2, .ref q23_3, .ref q31_4, .int 0, .ref q38_5, .ref q45_6, .ref q52_7, .null]))] ++ ([(q7_1, .inl (cI, 10, .inl zz0))] ++ ([(q15_2, .inl (cI, 10, .inl zz0))] ++ ([(q23_3, .inl (cI, 10, .inl zz0))] ++ ([(q31_4, .inl (cI, 10, .inl zz0))] ++ ([(q38_5, .inl (cI, 4, .inl zz0))] ++ ([(q45_6, .inl (cI, 4, .inl zz0))] ++ ([(q52_7, .inl (cI, 4, .inl zz0))] ++ ([(q59_8, .inl (cI, 3, .inl (upd (upd zz0 0 (nI 100)) 1 (nI 120))))]))))))))) := hD
  refine lv_dup hx hb dX0_init_71 rfl ?_
  refine lv_iconst (v := nI 2) hx hb dX0_init_72 (by decide) ?_
  refine lv_bipush (v := nI 12) hx hb dX0_init_73 (by decide) ?_
  refine kx_iast hx hb hK hP hD hS 8 0 rfl rfl (by omega) (by decide) dX0_init_75 (fun H locs hP hD hS => ?_)
  have hP : va_P D vwCl ([(b0, .inr (0, [.int 0, .ref q7_1, .ref q15_2, .ref q23_3, .ref q31_4, .int 0, .ref q38_5, .ref q45_6, .ref q52_7, .null]))] ++ ([(q7_1, .inl (cI, 10, .inl zz0))] ++ ([(q15_2, .inl (cI, 10, .inl zz0))] ++ ([(q23_3, .inl (cI, 10, .inl zz0))] ++ ([(q31_4, .inl (cI, 10, .inl zz0))] ++ ([(q38_5, .inl (cI, 4, .inl zz0))] ++ ([(q45_6, .inl (cI, 4, .inl zz0))] ++ ([(q52_7, .inl (cI, 4, .inl zz0))] ++ ([(q59_8, .inl (cI, 3, .inl (upd (upd (upd zz0 0 (nI 100)) 1 (nI 120)) 2 (nI 12))))]))))))))) H := hP
  have hD : va_D A ([(b0, .inr (0, [.int 0, .ref q7_1, .ref q15_2, .ref q23_3, .ref q31_4, .int 0, .ref q38_5, .ref q45_6, .ref q52_7, .null]))] ++ ([(q7_1, .inl (cI, 10, .inl zz0))] ++ ([(q15_2, .inl (cI, 10, .inl zz0))] ++ ([(q23_3, .inl (cI, 10, .inl zz0))] ++ ([(q31_4, .inl (cI, 10, .inl zz0))] ++ ([(q38_5, .inl (cI, 4, .inl zz0))] ++ ([(q45_6, .inl (cI, 4, .inl zz0))] ++ ([(q52_7, .inl (cI, 4, .inl zz0))] ++ ([(q59_8, .inl (cI, 3, .inl (upd (upd (upd zz0 0 (nI 100)) 1 (nI 120)) 2 (nI 12))))]))))))))) := hD
  refine va_putF (D := D) (ci := 0) (v := .ref q59_8) (ty := (.array .int)) (C := RX0) (T := TX0) (N := 10) hx hb hts iX0_init_0 tyX0 tyX0_ok nmX0 hown hK hP hD hS 0 rfl rfl 9 (by decide) (hts (.fieldLink RX0 33 "HallSights$Hall" "settings" "[I") (List.mem_of_getElem? (i := 12) rfl)) (fun _ h9 => h9) rfl hin rfl (by decide +kernel) rfl rfl (Nat.le_of_ble_eq_true rfl) dX0_init_76 (fun H locs hP hD hS => ?_)
  have hP : va_P D vwCl ([(b0, .inr (0, [.int 0, .ref q7_1, .ref q15_2, .ref q23_3, .ref q31_4, .int 0, .ref q38_5, .ref q45_6, .ref q52_7, .ref q59_8]))] ++ ([(q7_1, .inl (cI, 10, .inl zz0))] ++ ([(q15_2, .inl (cI, 10, .inl zz0))] ++ ([(q23_3, .inl (cI, 10, .inl zz0))] ++ ([(q31_4, .inl (cI, 10, .inl zz0))] ++ ([(q38_5, .inl (cI, 4, .inl zz0))] ++ ([(q45_6, .inl (cI, 4, .inl zz0))] ++ ([(q52_7, .inl (cI, 4, .inl zz0))] ++ ([(q59_8, .inl (cI, 3, .inl (upd (upd (upd zz0 0 (nI 100)) 1 (nI 120)) 2 (nI 12))))]))))))))) H := hP
  have hD : va_D A ([(b0, .inr (0, [.int 0, .ref q7_1, .ref q15_2, .ref q23_3, .ref q31_4, .int 0, .ref q38_5, .ref q45_6, .ref q52_7, .ref q59_8]))] ++ ([(q7_1, .inl (cI, 10, .inl zz0))] ++ ([(q15_2, .inl (cI, 10, .inl zz0))] ++ ([(q23_3, .inl (cI, 10, .inl zz0))] ++ ([(q31_4, .inl (cI, 10, .inl zz0))] ++ ([(q38_5, .inl (cI, 4, .inl zz0))] ++ ([(q45_6, .inl (cI, 4, .inl zz0))] ++ ([(q52_7, .inl (cI, 4, .inl zz0))] ++ ([(q59_8, .inl (cI, 3, .inl (upd (upd (upd zz0 0 (nI 100)) 1 (nI 120)) 2 (nI 12))))]))))))))) := hD
  have hP : va_P D vwCl (HR (fun k => ([b0, q7_1, q15_2, q23_3, q31_4, q38_5, q45_6, q52_7, q59_8] : List Nat).getD k 0) cI 0 zz0 zz0 zz0 zz0 0 zz0 zz0 zz0 (upd (upd (upd zz0 0 (nI 100)) 1 (nI 120)) 2 (nI 12))) H := hP
  have hP : va_P D vwCl (HW (fun k => ([b0, q7_1, q15_2, q23_3, q31_4, q38_5, q45_6, q52_7, q59_8] : List Nat).getD k 0) cI z00) H := hw_ext hP _ _ _ _ _ _ _ _ (by decide) (fun j hj => by show (0 : Int32) = z00 _; unfold z00; rw [if_neg (by omega), if_neg (by omega), if_neg (by omega)]; rfl) (fun j hj => by show (0 : Int32) = z00 _; unfold z00; rw [if_neg (by omega), if_neg (by omega), if_neg (by omega)]; rfl) (fun j hj => by show (0 : Int32) = z00 _; unfold z00; rw [if_neg (by omega), if_neg (by omega), if_neg (by omega)]; rfl) (fun j hj => by show (0 : Int32) = z00 _; unfold z00; rw [if_neg (by omega), if_neg (by omega), if_neg (by omega)]; rfl) (by decide) (fun j hj => by show (0 : Int32) = z00 _; unfold z00; rw [if_neg (by omega), if_neg (by omega), if_neg (by omega)]; rfl) (fun j hj => by show (0 : Int32) = z00 _; unfold z00; rw [if_neg (by omega), if_neg (by omega), if_neg (by omega)]; rfl) (fun j hj => by show (0 : Int32) = z00 _; unfold z00; rw [if_neg (by omega), if_neg (by omega), if_neg (by omega)]; rfl) (fun j hj => by rcases (show j = 0 ∨ j = 1 ∨ j = 2 by omega) with rfl | rfl | rfl <;> rfl)
  have hD : va_D A (HW (fun k => ([b0, q7_1, q15_2, q23_3, q31_4, q38_5, q45_6, q52_7, q59_8] : List Nat).getD k 0) cI z00) := vaD_x hD rfl
  exact W.vret hx hb hrt (fun t ht _ => ⟨rfl, _, ⟨_, rfl, rfl⟩, by rw [ht]; exact hP, hD, hS.F ht⟩) hS.2.2 dX0_init_79 hlocks
set_option maxRecDepth 20000 in
theorem iX3_init_0 : ∀ w ∈ wsX00, w ∈ wsX3_init := by decide +kernel
set_option maxRecDepth 20000 in
theorem iX3_init_3 : ∀ w ∈ wsX30, w ∈ wsX3_init := by decide +kernel
set_option maxHeartbeats 4000000 in
set_option maxRecDepth 100000 in
theorem c_X3_init (l : Launch) (D : va_G) (cI cC cH cL : ClassId) (sz : Nat) (v0 : Nat) : Met l yX3_init wsX3_init ({ frames := 2, cells := 12, slots := 425, locals := 40 }) (kcp [.ref v0] D ([(v0, .inr (3, [.null, .int 0, .null, .null, .null]))]) (kT cI cC cH cL) sz) (kcq D (va_A ([(v0, .inr (3, [.null, .int 0, .null, .null, .null]))]) sz) (fun w1 => ∃ b v : Nat → Nat, v 0 = v0 ∧ w1 = HW b cI z00 ++ SW v (b 0) cI (nI 0) zz0 zz0 zz0)) 12 425 (va_A ([(v0, .inr (3, [.null, .int 0, .null, .null, .null]))]) sz) := by
  refine Met.ofW (cc := cX3_init) (maxL := 1) (ret := none) (by decide) rfl ?_
  intro p e s m args below meth c s₁ B hml hv
  obtain ⟨rfl, hsz, hP, hK, hD0, hN⟩ := hv
  have hx := B.exec
  have hb := B.bytes
  have hrt := B.returns
  have hts := atoms_spec (ws := wsX3_init) B.pre
  have hown : s.vm.findClass RX3 = some m.cls := findClass_of_methodNamed B.named
  have hlocks := B.notSynchronized
  have hin : meth.name = "<init>" := (name_of_methodNamed B.named B.method).1
  subst hsz
  have hD := hD0.self (sz := s.heap.size)
  generalize hAe : va_A ([(v0, .inr (3, [.null, .int 0, .null, .null, .null]))]) s.heap.size = A at hD ⊢
  have hA : ∀ q : Nat, s.heap.size ≤ q → A q := fun q h => by rw [← hAe]; exact Or.inr h
  have hS : va_S A s.heap s.heap [] := va_S.rf
  have hP : va_P D vwCl ([(v0, .inr (3, [.null, .int 0, .null, .null, .null]))]) s.heap := hP
  have hl := lv_entry ([.ref v0]) (n := 1) (Nat.le_of_ble_eq_true rfl)
  rw [lg_entry_eq]
  generalize (lg_sl ([.ref v0]) ++ List.replicate (1 - (lg_sl ([.ref v0])).length) Slot.unset).toArray = ls at hl ⊢
  have hl : lv_has ls 1 [(0, .ref v0)] := hl
  refine lv_aload_n hx hb dX3_init_0 rfl (lv_at hl 0 rfl) ?_
  refine W.objInit hx hb hown (hts (.methodLink RX3 3 objectInit) (List.mem_of_getElem? (i := 1) rfl)) (hts (.instanceMethod objectInit) (List.mem_of_getElem? (i := 2) rfl)) (hts (.code objectInit ⟨#[0xb1]⟩ 1 none) (List.mem_of_getElem? (i := 3) rfl)) rfl (by rw [hml]; exact hl.1) rfl dX3_init_1 (Nat.le_of_ble_eq_true rfl) (Nat.le_of_ble_eq_true rfl) ?_
  refine W.eq (g2 := F0 m 4 ls []) rfl ?_
  refine lv_aload_n hx hb dX3_init_4 rfl (lv_at hl 0 rfl) ?_
  refine va_new (ci := 0) (fs := [.int 0, .null, .null, .null, .null, .int 0, .null, .null, .null, .null]) (C := RX0) (T := TX0) (N := 10) hx hb hts iX3_init_0 tyX0 tyX0_ok hown (hts (.classLink RX3 9 RX0) (List.mem_of_getElem? (i := 4) rfl)) (hts (.instantiable RX0 10) (List.mem_of_getElem? (i := 5) rfl)) (hts (.initialized RX0) (List.mem_of_getElem? (i := 6) rfl)) hK hP hD hS hA rfl (fun j hj => by rcases (show j = 0 ∨ j = 1 ∨ j = 2 ∨ j = 3 ∨ j = 4 ∨ j = 5 ∨ j = 6 ∨ j = 7 ∨ j = 8 ∨ j = 9 by omega) with rfl | rfl | rfl | rfl | rfl | rfl | rfl | rfl | rfl | rfl <;> rfl) (Nat.le_of_ble_eq_true rfl) (Nat.le_of_ble_eq_true rfl) dX3_init_5 (fun q5_1 H hP hD hS => ?_)
  have hP : va_P D vwCl ([(v0, .inr (3, [.null, .int 0, .null, .null, .null]))] ++ ([(q5_1, .inr (0, [.int 0, .null, .null, .null, .null, .int 0, .null, .null, .null, .null]))])) H := hP
  have hD : va_D A ([(v0, .inr (3, [.null, .int 0, .null, .null, .null]))] ++ ([(q5_1, .inr (0, [.int 0, .null, .null, .null, .null, .int 0, .null, .null, .null, .null]))])) := hD
  refine W.widen (k := 1) (n := 10) (Nat.le_of_ble_eq_true rfl) (Nat.le_of_ble_eq_true rfl) ?_
  refine lv_dup hx hb dX3_init_8 rfl ?_
  refine kc_IN (As := []) (rest := [.ref q5_1, .ref v0]) (own := RX3) ⟨hx, hb, hml, hown, hts⟩ (c_X0_init l D cI cC cH cL _ q5_1) ⟨va_cnB (host := RX4) 0 hts ggX3_init_X0_init rfl rfl rfl hN.2.2.2.1 (hts (.initialized RX0) (List.mem_of_getElem? (i := 6) rfl)) k_X0_initS ⟨Nat.le_of_ble_eq_true rfl, Nat.le_of_ble_eq_true rfl⟩, rfl, (hts (.instanceMethod yX0_init) (List.mem_of_getElem? (i := 12) rfl))⟩ hP hD hK hN hS hA [1] [0] rfl rfl (wr := [(v0, .inr (3, [.null, .int 0, .null, .null, .null]))]) rfl (by decide) (by decide) (by decide) rfl hl.1 rfl (Nat.le_of_ble_eq_true rfl) dX3_init_9 ⟨Nat.le_of_ble_eq_true rfl, Nat.le_of_ble_eq_true rfl⟩ (fun w1 H locs hB hP hD hS => ?_)
  obtain ⟨b9_2, rfl, rfl⟩ := hB
  have hl : lv_has ls 1 [(0, .ref v0)] := hl
  have hP : va_P D vwCl ([(v0, .inr (3, [.null, .int 0, .null, .null, .null]))] ++ (HW b9_2 cI z00)) H := hP
  have hD : va_D A ([(v0, .inr (3, [.null, .int 0, .null, .null, .null]))] ++ (HW b9_2 cI z00)) := hD
  refine W.widen (k := 9) (n := 65) (Nat.le_of_ble_eq_true rfl) (Nat.le_of_ble_eq_true rfl) ?_
  refine va_putF (D := D) (ci := 3) (v := .ref (b9_2 0)) (ty := (.object "HallSights$Hall")) (C := RX3) (T := TX3) (N := 5) hx hb hts iX3_init_3 tyX3 tyX3_ok nmX3 hown hK hP hD hS 0 rfl rfl 0 (by decide) (hts (.fieldLink RX3 12 "HallSights$Survey" "hall" "LHallSights$Hall;") (List.mem_of_getElem? (i := 7) rfl)) (fun _ h9 => h9) rfl hin rfl (by decide +kernel) rfl rfl (Nat.le_of_ble_eq_true rfl) dX3_init_12 (fun H locs hP hD hS => ?_)
  have hP : va_P D vwCl ([(v0, .inr (3, [.ref (b9_2 0), .int 0, .null, .null, .null]))] ++ (HW b9_2 cI z00)) H := hP
  have hD : va_D A ([(v0, .inr (3, [.ref (b9_2 0), .int 0, .null, .null, .null]))] ++ (HW b9_2 cI z00)) := hD
  refine lv_aload_n hx hb dX3_init_15 rfl (lv_at hl 0 rfl) ?_
  refine lv_bipush (v := nI 120) hx hb dX3_init_16 (by decide) ?_
  refine kx_newa (atype := .int) (ty := .int) (a0 := (120, .inl zz0)) hx hb (hts (.arrayClass .int) (List.mem_of_getElem? (i := 8) rfl)) rfl hK hP hD hS hA 0 rfl (fun h => h) rfl (nI_pos (by decide)) (nI_clamp (by decide)) (Nat.le_of_ble_eq_true rfl) (Nat.le_of_ble_eq_true rfl) (Nat.le_of_ble_eq_true rfl) dX3_init_18 (fun q18_3 H hP hD hS => ?_)
  have hP : va_P D vwCl ([(v0, .inr (3, [.ref (b9_2 0), .int 0, .null, .null, .null]))] ++ (HW b9_2 cI z00 ++ ([(q18_3, .inl (cI, 120, .inl zz0))]))) H := hP
  have hD : va_D A ([(v0, .inr (3, [.ref (b9_2 0), .int 0, .null, .null, .null]))] ++ (HW b9_2 cI z00 ++ ([(q18_3, .inl (cI, 120, .inl zz0))]))) := hD
  refine W.widen (k := 10) (n := 185) (Nat.le_of_ble_eq_true rfl) (Nat.le_of_ble_eq_true rfl) ?_
  refine va_putF (D := D) (ci := 3) (v := .ref q18_3) (ty := (.array .int)) (C := RX3) (T := TX3) (N := 5) hx hb hts iX3_init_3 tyX3 tyX3_ok nmX3 hown hK hP hD hS 0 rfl rfl 2 (by decide) (hts (.fieldLink RX3 18 "HallSights$Survey" "people" "[I") (List.mem_of_getElem? (i := 9) rfl)) (fun _ h9 => h9) rfl hin rfl (by decide +kernel) rfl rfl (Nat.le_of_ble_eq_true rfl) dX3_init_20 (fun H locs hP hD hS => ?_)
  have hP : va_P D vwCl ([(v0, .inr (3, [.ref (b9_2 0), .int 0, .ref q18_3, .null, .null]))] ++ (HW b9_2 cI z00 ++ ([(q18_3, .inl (cI, 120, .inl zz0))]))) H := hP
  have hD : va_D A ([(v0, .inr (3, [.ref (b9_2 0), .int 0, .ref q18_3, .null, .null]))] ++ (HW b9_2 cI z00 ++ ([(q18_3, .inl (cI, 120, .inl zz0))]))) := hD
  refine lv_aload_n hx hb dX3_init_23 rfl (lv_at hl 0 rfl) ?_
  refine lv_bipush (v := nI 120) hx hb dX3_init_24 (by decide) ?_
  refine kx_newa (atype := .int) (ty := .int) (a0 := (120, .inl zz0)) hx hb (hts (.arrayClass .int) (List.mem_of_getElem? (i := 8) rfl)) rfl hK hP hD hS hA 0 rfl (fun h => h) rfl (nI_pos (by decide)) (nI_clamp (by decide)) (Nat.le_of_ble_eq_true rfl) (Nat.le_of_ble_eq_true rfl) (Nat.le_of_ble_eq_true rfl) dX3_init_26 (fun q26_4 H hP hD hS => ?_)
  have hP : va_P D vwCl ([(v0, .inr (3, [.ref (b9_2 0), .int 0, .ref q18_3, .null, .null]))] ++ (HW b9_2 cI z00 ++ ([(q18_3, .inl (cI, 120, .inl zz0))] ++ ([(q26_4, .inl (cI, 120, .inl zz0))])))) H := hP
  have hD : va_D A ([(v0, .inr (3, [.ref (b9_2 0), .int 0, .ref q18_3, .null, .null]))] ++ (HW b9_2 cI z00 ++ ([(q18_3, .inl (cI, 120, .inl zz0))] ++ ([(q26_4, .inl (cI, 120, .inl zz0))])))) := hD
  refine W.widen (k := 11) (n := 305) (Nat.le_of_ble_eq_true rfl) (Nat.le_of_ble_eq_true rfl) ?_
  refine va_putF (D := D) (ci := 3) (v := .ref q26_4) (ty := (.array .int)) (C := RX3) (T := TX3) (N := 5) hx hb hts iX3_init_3 tyX3 tyX3_ok nmX3 hown hK hP hD hS 0 rfl rfl 3 (by decide) (hts (.fieldLink RX3 22 "HallSights$Survey" "columns" "[I") (List.mem_of_getElem? (i := 10) rfl)) (fun _ h9 => h9) rfl hin rfl (by decide +kernel) rfl rfl (Nat.le_of_ble_eq_true rfl) dX3_init_28 (fun H locs hP hD hS => ?_)
  have hP : va_P D vwCl ([(v0, .inr (3, [.ref (b9_2 0), .int 0, .ref q18_3, .ref q26_4, .null]))] ++ (HW b9_2 cI z00 ++ ([(q18_3, .inl (cI, 120, .inl zz0))] ++ ([(q26_4, .inl (cI, 120, .inl zz0))])))) H := hP
  have hD : va_D A ([(v0, .inr (3, [.ref (b9_2 0), .int 0, .ref q18_3, .ref q26_4, .null]))] ++ (HW b9_2 cI z00 ++ ([(q18_3, .inl (cI, 120, .inl zz0))] ++ ([(q26_4, .inl (cI, 120, .inl zz0))])))) := hD
  refine lv_aload_n hx hb dX3_init_31 rfl (lv_at hl 0 rfl) ?_
  refine lv_bipush (v := nI 120) hx hb dX3_init_32 (by decide) ?_
  refine kx_newa (atype := .int) (ty := .int) (a0 := (120, .inl zz0)) hx hb (hts (.arrayClass .int) (List.mem_of_getElem? (i := 8) rfl)) rfl hK hP hD hS hA 0 rfl (fun h => h) rfl (nI_pos (by decide)) (nI_clamp (by decide)) (Nat.le_of_ble_eq_true rfl) (Nat.le_of_ble_eq_true rfl) (Nat.le_of_ble_eq_true rfl) dX3_init_34 (fun q34_5 H hP hD hS => ?_)
  have hP : va_P D vwCl ([(v0, .inr (3, [.ref (b9_2 0), .int 0, .ref q18_3, .ref q26_4, .null]))] ++ (HW b9_2 cI z00 ++ ([(q18_3, .inl (cI, 120, .inl zz0))] ++ ([(q26_4, .inl (cI, 120, .inl zz0))] ++ ([(q34_5, .inl (cI, 120, .inl zz0))]))))) H := hP
  have hD : va_D A ([(v0, .inr (3, [.ref (b9_2 0), .int 0, .ref q18_3, .ref q26_4, .null]))] ++ (HW b9_2 cI z00 ++ ([(q18_3, .inl (cI, 120, .inl zz0))] ++ ([(q26_4, .inl (cI, 120, .inl zz0))] ++ ([(q34_5, .inl (cI, 120, .inl zz0))]))))) := hD
  refine W.widen (k := 12) (n := 425) (Nat.le_of_ble_eq_true rfl) (Nat.le_of_ble_eq_true rfl) ?_
  refine va_putF (D := D) (ci := 3) (v := .ref q34_5) (ty := (.array .int)) (C := RX3) (T := TX3) (N := 5) hx hb hts iX3_init_3 tyX3 tyX3_ok nmX3 hown hK hP hD hS 0 rfl rfl 4 (by decide) (hts (.fieldLink RX3 25 "HallSights$Survey" "ranks" "[I") (List.mem_of_getElem? (i := 11) rfl)) (fun _ h9 => h9) rfl hin rfl (by decide +kernel) rfl rfl (Nat.le_of_ble_eq_true rfl) dX3_init_36 (fun H locs hP hD hS => ?_)
  have hP : va_P D vwCl ([(v0, .inr (3, [.ref (b9_2 0), .int 0, .ref q18_3, .ref q26_4, .ref q34_5]))] ++ (HW b9_2 cI z00 ++ ([(q18_3, .inl (cI, 120, .inl zz0))] ++ ([(q26_4, .inl (cI, 120, .inl zz0))] ++ ([(q34_5, .inl (cI, 120, .inl zz0))]))))) H := hP
  have hD : va_D A ([(v0, .inr (3, [.ref (b9_2 0), .int 0, .ref q18_3, .ref q26_4, .ref q34_5]))] ++ (HW b9_2 cI z00 ++ ([(q18_3, .inl (cI, 120, .inl zz0))] ++ ([(q26_4, .inl (cI, 120, .inl zz0))] ++ ([(q34_5, .inl (cI, 120, .inl zz0))]))))) := hD
  have hP : va_P D vwCl (HW b9_2 cI z00 ++ SW (fun k => ([v0, q18_3, q26_4, q34_5] : List Nat).getD k 0) (b9_2 0) cI (nI 0) zz0 zz0 zz0) H := hP.sub [1, 2, 3, 4, 5, 6, 7, 8, 9, 0, 10, 11, 12] rfl
  have hD : va_D A (HW b9_2 cI z00 ++ SW (fun k => ([v0, q18_3, q26_4, q34_5] : List Nat).getD k 0) (b9_2 0) cI (nI 0) zz0 zz0 zz0) := hD.sub [1, 2, 3, 4, 5, 6, 7, 8, 9, 0, 10, 11, 12] (by decide) rfl
  exact W.vret hx hb hrt (fun t ht _ => ⟨rfl, _, ⟨_, _, rfl, rfl⟩, by rw [ht]; exact hP, hD, hS.F ht⟩) hS.2.2 dX3_init_39 hlocks
