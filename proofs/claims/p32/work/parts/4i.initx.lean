theorem k_X1_initS : yX1_init.cls ≠ "java/lang/invoke/MethodHandle" ∧ yX1_init.cls ≠ "java/lang/invoke/VarHandle" ∧ (parseMethodDescriptor yX1_init.desc).map (fun d => d.parameters.length) = some 0 := by decide +kernel
theorem k_X2_initS : yX2_init.cls ≠ "java/lang/invoke/MethodHandle" ∧ yX2_init.cls ≠ "java/lang/invoke/VarHandle" ∧ (parseMethodDescriptor yX2_init.desc).map (fun d => d.parameters.length) = some 0 := by decide +kernel
theorem k_X3_initS : yX3_init.cls ≠ "java/lang/invoke/MethodHandle" ∧ yX3_init.cls ≠ "java/lang/invoke/VarHandle" ∧ (parseMethodDescriptor yX3_init.desc).map (fun d => d.parameters.length) = some 0 := by decide +kernel
set_option maxRecDepth 20000 in
theorem iX4_init_1 : ∀ w ∈ wsX10, w ∈ wsX4_init := by decide +kernel
set_option maxRecDepth 20000 in
theorem iX4_init_2 : ∀ w ∈ wsX20, w ∈ wsX4_init := by decide +kernel
set_option maxRecDepth 20000 in
theorem iX4_init_3 : ∀ w ∈ wsX30, w ∈ wsX4_init := by decide +kernel
set_option maxRecDepth 20000 in
theorem iX4_init_4 : ∀ w ∈ wsX40, w ∈ wsX4_init := by decide +kernel
set_option maxHeartbeats 4000000 in
set_option maxRecDepth 100000 in
theorem c_X4_init (l : Launch) (D : va_G) (cI cC cH cL : ClassId) (sz : Nat) (x0 : Nat) : Met l yX4_init wsX4_init ({ frames := 3, cells := 85, slots := 1384, locals := 61 }) (kcp [.ref x0] D ([(x0, .inr (4, [.null, .null, .null, .null, .null]))]) (kT cI cC cH cL) sz) (kcq D (va_A ([(x0, .inr (4, [.null, .null, .null, .null, .null]))]) sz) (fun w1 => ∃ (x b v u o h t : Nat → Nat) (kb : Nat → Nat → Nat), x 0 = x0 ∧ w1 = [(x 0, .inr (4, [.ref (v 0), .ref (b 0), .ref (o 0), .ref (h 0), .ref (t 0)]))] ++ (HW b cI z00 ++ (SW v (b 0) cI (nI 0) zz0 zz0 zz0 ++ (HW u cI z00 ++ (SW o (u 0) cI (nI 0) zz0 zz0 zz0 ++ (KW h kb cI cH 0 (fun _ => z00) ++ TW t cC cI zz0 (nI 0) zz0 (nI 0) (nI 0)))))))) 85 1384 (va_A ([(x0, .inr (4, [.null, .null, .null, .null, .null]))]) sz) := by
  refine Met.ofW (cc := cX4_init) (maxL := 1) (ret := none) (by decide) rfl ?_
  intro p e s m args below meth c s₁ B hml hv
  obtain ⟨rfl, hsz, hP, hK, hD0, hN⟩ := hv
  have hx := B.exec
  have hb := B.bytes
  have hrt := B.returns
  have hts := atoms_spec (ws := wsX4_init) B.pre
  have hown : s.vm.findClass RX4 = some m.cls := findClass_of_methodNamed B.named
  have hlocks := B.notSynchronized
  have hin : meth.name = "<init>" := (name_of_methodNamed B.named B.method).1
  subst hsz
  have hD := hD0.self (sz := s.heap.size)
  generalize hAe : va_A ([(x0, .inr (4, [.null, .null, .null, .null, .null]))]) s.heap.size = A at hD ⊢
  have hA : ∀ q : Nat, s.heap.size ≤ q → A q := fun q h => by rw [← hAe]; exact Or.inr h
  have hS : va_S A s.heap s.heap [] := va_S.rf
  have hP : va_P D vwCl ([(x0, .inr (4, [.null, .null, .null, .null, .null]))]) s.heap := hP
  have hl := lv_entry ([.ref x0]) (n := 1) (Nat.le_of_ble_eq_true rfl)
  rw [lg_entry_eq]
  generalize (lg_sl ([.ref x0]) ++ List.replicate (1 - (lg_sl ([.ref x0])).length) Slot.unset).toArray = ls at hl ⊢
  have hl : lv_has ls 1 [(0, .ref x0)] := hl
  refine lv_aload_n hx hb dX4_init_0 rfl (lv_at hl 0 rfl) ?_
  refine W.objInit hx hb hown (hts (.methodLink RX4 1 objectInit) (List.mem_of_getElem? (i := 1) rfl)) (hts (.instanceMethod objectInit) (List.mem_of_getElem? (i := 2) rfl)) (hts (.code objectInit ⟨#[0xb1]⟩ 1 none) (List.mem_of_getElem? (i := 3) rfl)) rfl (by rw [hml]; exact hl.1) rfl dX4_init_1 (Nat.le_of_ble_eq_true rfl) (Nat.le_of_ble_eq_true rfl) ?_
  refine W.eq (g2 := F0 m 4 ls []) rfl ?_
  refine lv_aload_n hx hb dX4_init_4 rfl (lv_at hl 0 rfl) ?_
  refine va_new (ci := 3) (fs := [.null, .int 0, .null, .null, .null]) (C := RX3) (T := TX3) (N := 5) hx hb hts iX4_init_3 tyX3 tyX3_ok hown (hts (.classLink RX4 7 RX3) (List.mem_of_getElem? (i := 4) rfl)) (hts (.instantiable RX3 5) (List.mem_of_getElem? (i := 5) rfl)) (hts (.initialized RX3) (List.mem_of_getElem? (i := 6) rfl)) hK hP hD hS hA rfl (fun j hj => by rcases (show j = 0 ∨ j = 1 ∨ j = 2 ∨ j = 3 ∨ j = 4 by omega) with rfl | rfl | rfl | rfl | rfl <;> rfl) (Nat.le_of_ble_eq_true rfl) (Nat.le_of_ble_eq_true rfl) dX4_init_5 (fun q5_1 H hP hD hS => ?_)
  have hP : va_P D vwCl ([(x0, .inr (4, [.null, .null, .null, .null, .null]))] ++ ([(q5_1, .inr (3, [.null, .int 0, .null, .null, .null]))])) H := hP
  have hD : va_D A ([(x0, .inr (4, [.null, .null, .null, .null, .null]))] ++ ([(q5_1, .inr (3, [.null, .int 0, .null, .null, .null]))])) := hD
  refine W.widen (k := 1) (n := 5) (Nat.le_of_ble_eq_true rfl) (Nat.le_of_ble_eq_true rfl) ?_
  refine lv_dup hx hb dX4_init_8 rfl ?_
  refine kc_IN (As := []) (rest := [.ref q5_1, .ref x0]) (own := RX4) ⟨hx, hb, hml, hown, hts⟩ (c_X3_init l D cI cC cH cL _ q5_1) ⟨va_cnB (host := RX4) 0 hts ggX4_init_X3_init rfl rfl rfl hN.2.1 (hts (.initialized RX3) (List.mem_of_getElem? (i := 6) rfl)) k_X3_initS ⟨Nat.le_of_ble_eq_true rfl, Nat.le_of_ble_eq_true rfl⟩, rfl, (hts (.instanceMethod yX3_init) (List.mem_of_getElem? (i := 19) rfl))⟩ hP hD hK hN hS hA [1] [0] rfl rfl (wr := [(x0, .inr (4, [.null, .null, .null, .null, .null]))]) rfl (by decide) (by decide) (by decide) rfl hl.1 rfl (Nat.le_of_ble_eq_true rfl) dX4_init_9 ⟨Nat.le_of_ble_eq_true rfl, Nat.le_of_ble_eq_true rfl⟩ (fun w1 H locs hB hP hD hS => ?_)
  obtain ⟨b9_2, v9_2, rfl, rfl⟩ := hB
  have hl : lv_has ls 1 [(0, .ref x0)] := hl
  have hP : va_P D vwCl ([(x0, .inr (4, [.null, .null, .null, .null, .null]))] ++ (HW b9_2 cI z00 ++ (SW v9_2 (b9_2 0) cI (nI 0) zz0 zz0 zz0))) H := hP
  have hD : va_D A ([(x0, .inr (4, [.null, .null, .null, .null, .null]))] ++ (HW b9_2 cI z00 ++ (SW v9_2 (b9_2 0) cI (nI 0) zz0 zz0 zz0))) := hD
  refine W.widen (k := 13) (n := 430) (Nat.le_of_ble_eq_true rfl) (Nat.le_of_ble_eq_true rfl) ?_
  refine va_putF (D := D) (ci := 4) (v := .ref (v9_2 0)) (ty := (.object "HallSights$Survey")) (C := RX4) (T := TX4) (N := 5) hx hb hts iX4_init_4 tyX4 tyX4_ok nmX4 hown hK hP hD hS 0 rfl rfl 0 (by decide) (hts (.fieldLink RX4 10 "HallSights" "survey" "LHallSights$Survey;") (List.mem_of_getElem? (i := 7) rfl)) (fun _ h9 => h9) rfl hin rfl (by decide +kernel) rfl rfl (Nat.le_of_ble_eq_true rfl) dX4_init_12 (fun H locs hP hD hS => ?_)
  have hP : va_P D vwCl ([(x0, .inr (4, [.ref (v9_2 0), .null, .null, .null, .null]))] ++ (HW b9_2 cI z00 ++ (SW v9_2 (b9_2 0) cI (nI 0) zz0 zz0 zz0))) H := hP
  have hD : va_D A ([(x0, .inr (4, [.ref (v9_2 0), .null, .null, .null, .null]))] ++ (HW b9_2 cI z00 ++ (SW v9_2 (b9_2 0) cI (nI 0) zz0 zz0 zz0))) := hD
  refine lv_aload_n hx hb dX4_init_15 rfl (lv_at hl 0 rfl) ?_
  refine lv_aload_n hx hb dX4_init_16 rfl (lv_at hl 0 rfl) ?_
  refine va_get (D := D) (ci := 4) (v := .ref (v9_2 0)) (C := RX4) (T := TX4) (N := 5) hx hb hts iX4_init_4 hown hK hP 0 rfl rfl 0 (by decide) (hts (.fieldLink RX4 10 "HallSights" "survey" "LHallSights$Survey;") (List.mem_of_getElem? (i := 7) rfl)) (fun _ h9 => h9) rfl dX4_init_17 ?_
  refine va_get (D := D) (ci := 3) (v := .ref (b9_2 0)) (C := RX3) (T := TX3) (N := 5) hx hb hts iX4_init_3 hown hK hP 10 rfl rfl 0 (by decide) (hts (.fieldLink RX4 16 "HallSights$Survey" "hall" "LHallSights$Hall;") (List.mem_of_getElem? (i := 8) rfl)) (fun _ h9 => h9) rfl dX4_init_20 ?_
  refine va_putF (D := D) (ci := 4) (v := .ref (b9_2 0)) (ty := (.object "HallSights$Hall")) (C := RX4) (T := TX4) (N := 5) hx hb hts iX4_init_4 tyX4 tyX4_ok nmX4 hown hK hP hD hS 0 rfl rfl 1 (by decide) (hts (.fieldLink RX4 20 "HallSights" "hall" "LHallSights$Hall;") (List.mem_of_getElem? (i := 9) rfl)) (fun _ h9 => h9) rfl hin rfl (by decide +kernel) rfl rfl (Nat.le_of_ble_eq_true rfl) dX4_init_23 (fun H locs hP hD hS => ?_)
  have hP : va_P D vwCl ([(x0, .inr (4, [.ref (v9_2 0), .ref (b9_2 0), .null, .null, .null]))] ++ (HW b9_2 cI z00 ++ (SW v9_2 (b9_2 0) cI (nI 0) zz0 zz0 zz0))) H := hP
  have hD : va_D A ([(x0, .inr (4, [.ref (v9_2 0), .ref (b9_2 0), .null, .null, .null]))] ++ (HW b9_2 cI z00 ++ (SW v9_2 (b9_2 0) cI (nI 0) zz0 zz0 zz0))) := hD
  refine lv_aload_n hx hb dX4_init_26 rfl (lv_at hl 0 rfl) ?_
  refine va_new (ci := 3) (fs := [.null, .int 0, .null, .null, .null]) (C := RX3) (T := TX3) (N := 5) hx hb hts iX4_init_3 tyX3 tyX3_ok hown (hts (.classLink RX4 7 RX3) (List.mem_of_getElem? (i := 4) rfl)) (hts (.instantiable RX3 5) (List.mem_of_getElem? (i := 5) rfl)) (hts (.initialized RX3) (List.mem_of_getElem? (i := 6) rfl)) hK hP hD hS hA rfl (fun j hj => by rcases (show j = 0 ∨ j = 1 ∨ j = 2 ∨ j = 3 ∨ j = 4 by omega) with rfl | rfl | rfl | rfl | rfl <;> rfl) (Nat.le_of_ble_eq_true rfl) (Nat.le_of_ble_eq_true rfl) dX4_init_27 (fun q27_3 H hP hD hS => ?_)
  have hP : va_P D vwCl ([(x0, .inr (4, [.ref (v9_2 0), .ref (b9_2 0), .null, .null, .null]))] ++ (HW b9_2 cI z00 ++ (SW v9_2 (b9_2 0) cI (nI 0) zz0 zz0 zz0 ++ ([(q27_3, .inr (3, [.null, .int 0, .null, .null, .null]))])))) H := hP
  have hD : va_D A ([(x0, .inr (4, [.ref (v9_2 0), .ref (b9_2 0), .null, .null, .null]))] ++ (HW b9_2 cI z00 ++ (SW v9_2 (b9_2 0) cI (nI 0) zz0 zz0 zz0 ++ ([(q27_3, .inr (3, [.null, .int 0, .null, .null, .null]))])))) := hD
  refine W.widen (k := 14) (n := 435) (Nat.le_of_ble_eq_true rfl) (Nat.le_of_ble_eq_true rfl) ?_
  refine lv_dup hx hb dX4_init_30 rfl ?_
  refine kc_IN (As := []) (rest := [.ref q27_3, .ref x0]) (own := RX4) ⟨hx, hb, hml, hown, hts⟩ (c_X3_init l D cI cC cH cL _ q27_3) ⟨va_cnB (host := RX4) 0 hts ggX4_init_X3_init rfl rfl rfl hN.2.1 (hts (.initialized RX3) (List.mem_of_getElem? (i := 6) rfl)) k_X3_initS ⟨Nat.le_of_ble_eq_true rfl, Nat.le_of_ble_eq_true rfl⟩, rfl, (hts (.instanceMethod yX3_init) (List.mem_of_getElem? (i := 19) rfl))⟩ hP hD hK hN hS hA [14] [0, 1, 2, 3, 4, 5, 6, 7, 8, 9, 10, 11, 12, 13] rfl rfl (wr := [(x0, .inr (4, [.ref (v9_2 0), .ref (b9_2 0), .null, .null, .null]))] ++ (HW b9_2 cI z00 ++ (SW v9_2 (b9_2 0) cI (nI 0) zz0 zz0 zz0))) rfl (by decide) (by decide) (by decide) rfl hl.1 rfl (Nat.le_of_ble_eq_true rfl) dX4_init_31 ⟨Nat.le_of_ble_eq_true rfl, Nat.le_of_ble_eq_true rfl⟩ (fun w1 H locs hB hP hD hS => ?_)
  obtain ⟨b31_4, v31_4, rfl, rfl⟩ := hB
  have hl : lv_has ls 1 [(0, .ref x0)] := hl
  have hP : va_P D vwCl ([(x0, .inr (4, [.ref (v9_2 0), .ref (b9_2 0), .null, .null, .null]))] ++ (HW b9_2 cI z00 ++ (SW v9_2 (b9_2 0) cI (nI 0) zz0 zz0 zz0 ++ (HW b31_4 cI z00 ++ (SW v31_4 (b31_4 0) cI (nI 0) zz0 zz0 zz0))))) H := hP
  have hD : va_D A ([(x0, .inr (4, [.ref (v9_2 0), .ref (b9_2 0), .null, .null, .null]))] ++ (HW b9_2 cI z00 ++ (SW v9_2 (b9_2 0) cI (nI 0) zz0 zz0 zz0 ++ (HW b31_4 cI z00 ++ (SW v31_4 (b31_4 0) cI (nI 0) zz0 zz0 zz0))))) := hD
  refine W.widen (k := 26) (n := 860) (Nat.le_of_ble_eq_true rfl) (Nat.le_of_ble_eq_true rfl) ?_
  refine va_putF (D := D) (ci := 4) (v := .ref (v31_4 0)) (ty := (.object "HallSights$Survey")) (C := RX4) (T := TX4) (N := 5) hx hb hts iX4_init_4 tyX4 tyX4_ok nmX4 hown hK hP hD hS 0 rfl rfl 2 (by decide) (hts (.fieldLink RX4 21 "HallSights" "trial" "LHallSights$Survey;") (List.mem_of_getElem? (i := 10) rfl)) (fun _ h9 => h9) rfl hin rfl (by decide +kernel) rfl rfl (Nat.le_of_ble_eq_true rfl) dX4_init_34 (fun H locs hP hD hS => ?_)
  have hP : va_P D vwCl ([(x0, .inr (4, [.ref (v9_2 0), .ref (b9_2 0), .ref (v31_4 0), .null, .null]))] ++ (HW b9_2 cI z00 ++ (SW v9_2 (b9_2 0) cI (nI 0) zz0 zz0 zz0 ++ (HW b31_4 cI z00 ++ (SW v31_4 (b31_4 0) cI (nI 0) zz0 zz0 zz0))))) H := hP
  have hD : va_D A ([(x0, .inr (4, [.ref (v9_2 0), .ref (b9_2 0), .ref (v31_4 0), .null, .null]))] ++ (HW b9_2 cI z00 ++ (SW v9_2 (b9_2 0) cI (nI 0) zz0 zz0 zz0 ++ (HW b31_4 cI z00 ++ (SW v31_4 (b31_4 0) cI (nI 0) zz0 zz0 zz0))))) := hD
  refine lv_aload_n hx hb dX4_init_37 rfl (lv_at hl 0 rfl) ?_
  refine va_new (ci := 1) (fs := [.null, .int 0]) (C := RX1) (T := TX1) (N := 2) hx hb hts iX4_init_1 tyX1 tyX1_ok hown (hts (.classLink RX4 24 RX1) (List.mem_of_getElem? (i := 11) rfl)) (hts (.instantiable RX1 2) (List.mem_of_getElem? (i := 12) rfl)) (hts (.initialized RX1) (List.mem_of_getElem? (i := 13) rfl)) hK hP hD hS hA rfl (fun j hj => by rcases (show j = 0 ∨ j = 1 by omega) with rfl | rfl <;> rfl) (Nat.le_of_ble_eq_true rfl) (Nat.le_of_ble_eq_true rfl) dX4_init_38 (fun q38_5 H hP hD hS => ?_)
  have hP : va_P D vwCl ([(x0, .inr (4, [.ref (v9_2 0), .ref (b9_2 0), .ref (v31_4 0), .null, .null]))] ++ (HW b9_2 cI z00 ++ (SW v9_2 (b9_2 0) cI (nI 0) zz0 zz0 zz0 ++ (HW b31_4 cI z00 ++ (SW v31_4 (b31_4 0) cI (nI 0) zz0 zz0 zz0 ++ ([(q38_5, .inr (1, [.null, .int 0]))])))))) H := hP
  have hD : va_D A ([(x0, .inr (4, [.ref (v9_2 0), .ref (b9_2 0), .ref (v31_4 0), .null, .null]))] ++ (HW b9_2 cI z00 ++ (SW v9_2 (b9_2 0) cI (nI 0) zz0 zz0 zz0 ++ (HW b31_4 cI z00 ++ (SW v31_4 (b31_4 0) cI (nI 0) zz0 zz0 zz0 ++ ([(q38_5, .inr (1, [.null, .int 0]))])))))) := hD
  refine W.widen (k := 27) (n := 862) (Nat.le_of_ble_eq_true rfl) (Nat.le_of_ble_eq_true rfl) ?_
  refine lv_dup hx hb dX4_init_41 rfl ?_
  refine kc_I (As := []) (rest := [.ref q38_5, .ref x0]) (own := RX4) ⟨hx, hb, hml, hown, hts⟩ (c_X1_init l D cI cC cH cL _ q38_5) (cwI 0 hts ggX4_init_X1_init rfl rfl rfl (hts (.initialized RX1) (List.mem_of_getElem? (i := 13) rfl)) (hts (.methodLink RX4 26 yX1_init) (List.mem_of_getElem? (i := 41) rfl)) (hts (.instanceMethod yX1_init) (List.mem_of_getElem? (i := 42) rfl)) rfl k_X1_initS ⟨Nat.le_of_ble_eq_true rfl, Nat.le_of_ble_eq_true rfl⟩) hP hD hK hN hS hA [27] [0, 1, 2, 3, 4, 5, 6, 7, 8, 9, 10, 11, 12, 13, 14, 15, 16, 17, 18, 19, 20, 21, 22, 23, 24, 25, 26] rfl rfl (wr := [(x0, .inr (4, [.ref (v9_2 0), .ref (b9_2 0), .ref (v31_4 0), .null, .null]))] ++ (HW b9_2 cI z00 ++ (SW v9_2 (b9_2 0) cI (nI 0) zz0 zz0 zz0 ++ (HW b31_4 cI z00 ++ (SW v31_4 (b31_4 0) cI (nI 0) zz0 zz0 zz0))))) rfl (by decide) (by decide) (by decide) rfl hl.1 rfl (Nat.le_of_ble_eq_true rfl) dX4_init_42 ⟨Nat.le_of_ble_eq_true rfl, Nat.le_of_ble_eq_true rfl⟩ (fun w1 H locs hB hP hD hS => ?_)
  obtain ⟨h42_6, kb42_6, rfl, rfl⟩ := hB
  have hl : lv_has ls 1 [(0, .ref x0)] := hl
  have hP : va_P D vwCl ([(x0, .inr (4, [.ref (v9_2 0), .ref (b9_2 0), .ref (v31_4 0), .null, .null]))] ++ (HW b9_2 cI z00 ++ (SW v9_2 (b9_2 0) cI (nI 0) zz0 zz0 zz0 ++ (HW b31_4 cI z00 ++ (SW v31_4 (b31_4 0) cI (nI 0) zz0 zz0 zz0 ++ (KW h42_6 kb42_6 cI cH 0 (fun _ => z00))))))) H := hP
  have hD : va_D A ([(x0, .inr (4, [.ref (v9_2 0), .ref (b9_2 0), .ref (v31_4 0), .null, .null]))] ++ (HW b9_2 cI z00 ++ (SW v9_2 (b9_2 0) cI (nI 0) zz0 zz0 zz0 ++ (HW b31_4 cI z00 ++ (SW v31_4 (b31_4 0) cI (nI 0) zz0 zz0 zz0 ++ (KW h42_6 kb42_6 cI cH 0 (fun _ => z00))))))) := hD
  refine W.widen (k := 82) (n := 1258) (Nat.le_of_ble_eq_true rfl) (Nat.le_of_ble_eq_true rfl) ?_
  refine va_putF (D := D) (ci := 4) (v := .ref (h42_6 0)) (ty := (.object "HallSights$History")) (C := RX4) (T := TX4) (N := 5) hx hb hts iX4_init_4 tyX4 tyX4_ok nmX4 hown hK hP hD hS 0 rfl rfl 3 (by decide) (hts (.fieldLink RX4 27 "HallSights" "history" "LHallSights$History;") (List.mem_of_getElem? (i := 14) rfl)) (fun _ h9 => h9) rfl hin rfl (by decide +kernel) rfl rfl (Nat.le_of_ble_eq_true rfl) dX4_init_45 (fun H locs hP hD hS => ?_)
  have hP : va_P D vwCl ([(x0, .inr (4, [.ref (v9_2 0), .ref (b9_2 0), .ref (v31_4 0), .ref (h42_6 0), .null]))] ++ (HW b9_2 cI z00 ++ (SW v9_2 (b9_2 0) cI (nI 0) zz0 zz0 zz0 ++ (HW b31_4 cI z00 ++ (SW v31_4 (b31_4 0) cI (nI 0) zz0 zz0 zz0 ++ (KW h42_6 kb42_6 cI cH 0 (fun _ => z00))))))) H := hP
  have hD : va_D A ([(x0, .inr (4, [.ref (v9_2 0), .ref (b9_2 0), .ref (v31_4 0), .ref (h42_6 0), .null]))] ++ (HW b9_2 cI z00 ++ (SW v9_2 (b9_2 0) cI (nI 0) zz0 zz0 zz0 ++ (HW b31_4 cI z00 ++ (SW v31_4 (b31_4 0) cI (nI 0) zz0 zz0 zz0 ++ (KW h42_6 kb42_6 cI cH 0 (fun _ => z00))))))) := hD
  refine lv_aload_n hx hb dX4_init_48 rfl (lv_at hl 0 rfl) ?_
  refine va_new (ci := 2) (fs := [.null, .int 0, .null, .int 0, .int 0]) (C := RX2) (T := TX2) (N := 5) hx hb hts iX4_init_2 tyX2 tyX2_ok hown (hts (.classLink RX4 31 RX2) (List.mem_of_getElem? (i := 15) rfl)) (hts (.instantiable RX2 5) (List.mem_of_getElem? (i := 16) rfl)) (hts (.initialized RX2) (List.mem_of_getElem? (i := 17) rfl)) hK hP hD hS hA rfl (fun j hj => by rcases (show j = 0 ∨ j = 1 ∨ j = 2 ∨ j = 3 ∨ j = 4 by omega) with rfl | rfl | rfl | rfl | rfl <;> rfl) (Nat.le_of_ble_eq_true rfl) (Nat.le_of_ble_eq_true rfl) dX4_init_49 (fun q49_7 H hP hD hS => ?_)
  have hP : va_P D vwCl ([(x0, .inr (4, [.ref (v9_2 0), .ref (b9_2 0), .ref (v31_4 0), .ref (h42_6 0), .null]))] ++ (HW b9_2 cI z00 ++ (SW v9_2 (b9_2 0) cI (nI 0) zz0 zz0 zz0 ++ (HW b31_4 cI z00 ++ (SW v31_4 (b31_4 0) cI (nI 0) zz0 zz0 zz0 ++ (KW h42_6 kb42_6 cI cH 0 (fun _ => z00) ++ ([(q49_7, .inr (2, [.null, .int 0, .null, .int 0, .int 0]))]))))))) H := hP
  have hD : va_D A ([(x0, .inr (4, [.ref (v9_2 0), .ref (b9_2 0), .ref (v31_4 0), .ref (h42_6 0), .null]))] ++ (HW b9_2 cI z00 ++ (SW v9_2 (b9_2 0) cI (nI 0) zz0 zz0 zz0 ++ (HW b31_4 cI z00 ++ (SW v31_4 (b31_4 0) cI (nI 0) zz0 zz0 zz0 ++ (KW h42_6 kb42_6 cI cH 0 (fun _ => z00) ++ ([(q49_7, .inr (2, [.null, .int 0, .null, .int 0, .int 0]))]))))))) := hD
  refine W.widen (k := 83) (n := 1263) (Nat.le_of_ble_eq_true rfl) (Nat.le_of_ble_eq_true rfl) ?_
  refine lv_dup hx hb dX4_init_52 rfl ?_
  refine kc_IN (As := []) (rest := [.ref q49_7, .ref x0]) (own := RX4) ⟨hx, hb, hml, hown, hts⟩ (c_X2_init l D cI cC cH cL _ q49_7) ⟨va_cnB (host := RX4) 0 hts ggX4_init_X2_init rfl rfl rfl hN.2.2.2.2 (hts (.initialized RX2) (List.mem_of_getElem? (i := 17) rfl)) k_X2_initS ⟨Nat.le_of_ble_eq_true rfl, Nat.le_of_ble_eq_true rfl⟩, rfl, (hts (.instanceMethod yX2_init) (List.mem_of_getElem? (i := 47) rfl))⟩ hP hD hK hN hS hA [83] (0 :: 1 :: 2 :: 3 :: 4 :: 5 :: 6 :: 7 :: 8 :: 9 :: 10 :: 11 :: 12 :: 13 :: 14 :: 15 :: 16 :: 17 :: 18 :: 19 :: 20 :: 21 :: 22 :: 23 :: 24 :: 25 :: 26 :: 27 :: 28 :: 29 :: 30 :: 31 :: 32 :: 33 :: 34 :: 35 :: 36 :: 37 :: 38 :: 39 :: 40 :: 41 :: 42 :: 43 :: 44 :: 45 :: 46 :: 47 :: 48 :: 49 :: 50 :: 51 :: 52 :: 53 :: 54 :: 55 :: 56 :: 57 :: 58 :: 59 :: 60 :: 61 :: 62 :: 63 :: 64 :: 65 :: 66 :: 67 :: 68 :: 69 :: 70 :: 71 :: 72 :: 73 :: 74 :: 75 :: 76 :: 77 :: 78 :: 79 :: 80 :: 81 :: 82 :: []) rfl rfl (wr := [(x0, .inr (4, [.ref (v9_2 0), .ref (b9_2 0), .ref (v31_4 0), .ref (h42_6 0), .null]))] ++ (HW b9_2 cI z00 ++ (SW v9_2 (b9_2 0) cI (nI 0) zz0 zz0 zz0 ++ (HW b31_4 cI z00 ++ (SW v31_4 (b31_4 0) cI (nI 0) zz0 zz0 zz0 ++ (KW h42_6 kb42_6 cI cH 0 (fun _ => z00))))))) rfl (by decide) (by decide) (by decide) rfl hl.1 rfl (Nat.le_of_ble_eq_true rfl) dX4_init_53 ⟨Nat.le_of_ble_eq_true rfl, Nat.le_of_ble_eq_true rfl⟩ (fun w1 H locs hB hP hD hS => ?_)
  obtain ⟨t53_8, rfl, rfl⟩ := hB
  have hl : lv_has ls 1 [(0, .ref x0)] := hl
  have hP : va_P D vwCl ([(x0, .inr (4, [.ref (v9_2 0), .ref (b9_2 0), .ref (v31_4 0), .ref (h42_6 0), .null]))] ++ (HW b9_2 cI z00 ++ (SW v9_2 (b9_2 0) cI (nI 0) zz0 zz0 zz0 ++ (HW b31_4 cI z00 ++ (SW v31_4 (b31_4 0) cI (nI 0) zz0 zz0 zz0 ++ (KW h42_6 kb42_6 cI cH 0 (fun _ => z00) ++ (TW t53_8 cC cI zz0 (nI 0) zz0 (nI 0) (nI 0)))))))) H := hP
  have hD : va_D A ([(x0, .inr (4, [.ref (v9_2 0), .ref (b9_2 0), .ref (v31_4 0), .ref (h42_6 0), .null]))] ++ (HW b9_2 cI z00 ++ (SW v9_2 (b9_2 0) cI (nI 0) zz0 zz0 zz0 ++ (HW b31_4 cI z00 ++ (SW v31_4 (b31_4 0) cI (nI 0) zz0 zz0 zz0 ++ (KW h42_6 kb42_6 cI cH 0 (fun _ => z00) ++ (TW t53_8 cC cI zz0 (nI 0) zz0 (nI 0) (nI 0)))))))) := hD
  refine W.widen (k := 85) (n := 1384) (Nat.le_of_ble_eq_true rfl) (Nat.le_of_ble_eq_true rfl) ?_
  refine va_putF (D := D) (ci := 4) (v := .ref (t53_8 0)) (ty := (.object "HallSights$RowsText")) (C := RX4) (T := TX4) (N := 5) hx hb hts iX4_init_4 tyX4 tyX4_ok nmX4 hown hK hP hD hS 0 rfl rfl 4 (by decide) (hts (.fieldLink RX4 34 "HallSights" "text" "LHallSights$RowsText;") (List.mem_of_getElem? (i := 18) rfl)) (fun _ h9 => h9) rfl hin rfl (by decide +kernel) rfl rfl (Nat.le_of_ble_eq_true rfl) dX4_init_56 (fun H locs hP hD hS => ?_)
  have hP : va_P D vwCl ([(x0, .inr (4, [.ref (v9_2 0), .ref (b9_2 0), .ref (v31_4 0), .ref (h42_6 0), .ref (t53_8 0)]))] ++ (HW b9_2 cI z00 ++ (SW v9_2 (b9_2 0) cI (nI 0) zz0 zz0 zz0 ++ (HW b31_4 cI z00 ++ (SW v31_4 (b31_4 0) cI (nI 0) zz0 zz0 zz0 ++ (KW h42_6 kb42_6 cI cH 0 (fun _ => z00) ++ (TW t53_8 cC cI zz0 (nI 0) zz0 (nI 0) (nI 0)))))))) H := hP
  have hD : va_D A ([(x0, .inr (4, [.ref (v9_2 0), .ref (b9_2 0), .ref (v31_4 0), .ref (h42_6 0), .ref (t53_8 0)]))] ++ (HW b9_2 cI z00 ++ (SW v9_2 (b9_2 0) cI (nI 0) zz0 zz0 zz0 ++ (HW b31_4 cI z00 ++ (SW v31_4 (b31_4 0) cI (nI 0) zz0 zz0 zz0 ++ (KW h42_6 kb42_6 cI cH 0 (fun _ => z00) ++ (TW t53_8 cC cI zz0 (nI 0) zz0 (nI 0) (nI 0)))))))) := hD
  exact W.vret hx hb hrt (fun t ht _ => ⟨rfl, _, ⟨(fun _ => x0), b9_2, v9_2, b31_4, v31_4, h42_6, t53_8, kb42_6, rfl, rfl⟩, by rw [ht]; exact hP, hD, hS.F ht⟩) hS.2.2 dX4_init_59 hlocks
