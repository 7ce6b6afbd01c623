set_option maxRecDepth 20000 in
theorem iX1_init_0 : ∀ w ∈ wsX00, w ∈ wsX1_init := by decide +kernel
set_option maxRecDepth 20000 in
theorem iX1_init_1 : ∀ w ∈ wsX10, w ∈ wsX1_init := by decide +kernel
set_option maxHeartbeats 4000000 in
set_option maxRecDepth 100000 in
theorem c_X1_init (l : Launch) (D : va_G) (cI cC cH cL : ClassId) (sz : Nat) (h0 : Nat) : Met l yX1_init wsX1_init ({ frames := 2, cells := 55, slots := 396, locals := 40 }) (kcp [.ref h0] D ([(h0, .inr (1, [.null, .int 0]))]) (kT cI cC cH cL) sz) (kcq D (va_A ([(h0, .inr (1, [.null, .int 0]))]) sz) (fun w1 => ∃ (h : Nat → Nat) (kb : Nat → Nat → Nat), h 0 = h0 ∧ w1 = KW h kb cI cH 0 (fun _ => z00))) 55 396 (va_A ([(h0, .inr (1, [.null, .int 0]))]) sz) := by
  refine Met.ofW (cc := cX1_init) (maxL := 2) (ret := none) (by decide) rfl ?_
  intro p e s m args below meth c s₁ B hml hv
  obtain ⟨rfl, hsz, hP, hK, hD0, hN⟩ := hv
  have hx := B.exec
  have hb := B.bytes
  have hrt := B.returns
  have hts := atoms_spec (ws := wsX1_init) B.pre
  have hown : s.vm.findClass RX1 = some m.cls := findClass_of_methodNamed B.named
  have hlocks := B.notSynchronized
  have hin : meth.name = "<init>" := (name_of_methodNamed B.named B.method).1
  subst hsz
  have hD := hD0.self (sz := s.heap.size)
  generalize hAe : va_A ([(h0, .inr (1, [.null, .int 0]))]) s.heap.size = A at hD ⊢
  have hA : ∀ q : Nat, s.heap.size ≤ q → A q := fun q h => by rw [← hAe]; exact Or.inr h
  have hS : va_S A s.heap s.heap [] := va_S.rf
  have hP : va_P D vwCl ([(h0, .inr (1, [.null, .int 0]))]) s.heap := hP
  have hl := lv_entry ([.ref h0]) (n := 2) (Nat.le_of_ble_eq_true rfl)
  rw [lg_entry_eq]
  generalize (lg_sl ([.ref h0]) ++ List.replicate (2 - (lg_sl ([.ref h0])).length) Slot.unset).toArray = ls at hl ⊢
  have hl : lv_has ls 2 [(0, .ref h0)] := hl
  refine lv_aload_n hx hb dX1_init_0 rfl (lv_at hl 0 rfl) ?_
  refine W.objInit hx hb hown (hts (.methodLink RX1 3 objectInit) (List.mem_of_getElem? (i := 1) rfl)) (hts (.instanceMethod objectInit) (List.mem_of_getElem? (i := 2) rfl)) (hts (.code objectInit ⟨#[0xb1]⟩ 1 none) (List.mem_of_getElem? (i := 3) rfl)) rfl (by rw [hml]; exact hl.1) rfl dX1_init_1 (Nat.le_of_ble_eq_true rfl) (Nat.le_of_ble_eq_true rfl) ?_
  refine W.eq (g2 := F0 m 4 ls []) rfl ?_
  refine lv_aload_n hx hb dX1_init_4 rfl (lv_at hl 0 rfl) ?_
  refine lv_bipush (v := nI 6) hx hb dX1_init_5 (by decide) ?_
  refine kx_newq hx hb hown (hts (.classLink RX1 9 RX0) (List.mem_of_getElem? (i := 4) rfl)) hN.1 hK hP hD hS hA 2 rfl (nI_pos (by decide)) (nI_clamp (by decide)) (Nat.le_of_ble_eq_true rfl) (Nat.le_of_ble_eq_true rfl) (Nat.le_of_ble_eq_true rfl) dX1_init_7 (fun q7_1 H hP hD hS => ?_)
  have hP : va_P D vwCl ([(h0, .inr (1, [.null, .int 0]))] ++ ([(q7_1, .inl (cH, 6, .inr (.inr (.inr (.inr (fun _ => none))))))])) H := hP
  have hD : va_D A ([(h0, .inr (1, [.null, .int 0]))] ++ ([(q7_1, .inl (cH, 6, .inr (.inr (.inr (.inr (fun _ => none))))))])) := hD
  refine W.widen (k := 1) (n := 6) (Nat.le_of_ble_eq_true rfl) (Nat.le_of_ble_eq_true rfl) ?_
  refine va_putF (D := D) (ci := 1) (v := .ref q7_1) (ty := (.array (.object RX0))) (C := RX1) (T := TX1) (N := 2) hx hb hts iX1_init_1 tyX1 tyX1_ok nmX1 hown hK hP hD hS 0 rfl rfl 0 (by decide) (hts (.fieldLink RX1 11 "HallSights$History" "kept" "[LHallSights$Hall;") (List.mem_of_getElem? (i := 5) rfl)) (fun _ h9 => h9) rfl hin rfl (by decide +kernel) rfl rfl (Nat.le_of_ble_eq_true rfl) dX1_init_10 (fun H locs hP hD hS => ?_)
  have hP : va_P D vwCl ([(h0, .inr (1, [.ref q7_1, .int 0]))] ++ ([(q7_1, .inl (cH, 6, .inr (.inr (.inr (.inr (fun _ => none))))))])) H := hP
  have hD : va_D A ([(h0, .inr (1, [.ref q7_1, .int 0]))] ++ ([(q7_1, .inl (cH, 6, .inr (.inr (.inr (.inr (fun _ => none))))))])) := hD
  refine lv_iconst (v := nI 0) hx hb dX1_init_13 (by decide) ?_
  refine lv_istore_n (lv' := [(1, .int (nI 0)), (0, .ref h0)]) hx hb dX1_init_14 rfl hl (by decide) rfl (fun ls hl => ?_)
  refine lv_iload_n hx hb dX1_init_15 rfl (lv_at hl 0 rfl) ?_
  refine lv_bipush (v := nI 6) hx hb dX1_init_16 (by decide) ?_
  refine kx_icmp_ge (tgt := 40) hx hb (by omega) (by omega) dX1_init_18 (by decide) (fun c => absurd c (by omega)) (fun c_18_0 => ?_)
  refine lv_aload_n hx hb dX1_init_21 rfl (lv_at hl 1 rfl) ?_
  refine va_get (D := D) (ci := 1) (v := .ref q7_1) (C := RX1) (T := TX1) (N := 2) hx hb hts iX1_init_1 hown hK hP 0 rfl rfl 0 (by decide) (hts (.fieldLink RX1 11 "HallSights$History" "kept" "[LHallSights$Hall;") (List.mem_of_getElem? (i := 5) rfl)) (fun _ h9 => h9) rfl dX1_init_22 ?_
  refine lv_iload_n hx hb dX1_init_25 rfl (lv_at hl 0 rfl) ?_
  refine va_new (ci := 0) (fs := [.int 0, .null, .null, .null, .null, .int 0, .null, .null, .null, .null]) (C := RX0) (T := TX0) (N := 10) hx hb hts iX1_init_0 tyX0 tyX0_ok hown (hts (.classLink RX1 9 RX0) (List.mem_of_getElem? (i := 4) rfl)) (hts (.instantiable RX0 10) (List.mem_of_getElem? (i := 6) rfl)) (hts (.initialized RX0) (List.mem_of_getElem? (i := 7) rfl)) hK hP hD hS hA rfl (fun j hj => by rcases (show j = 0 ∨ j = 1 ∨ j = 2 ∨ j = 3 ∨ j = 4 ∨ j = 5 ∨ j = 6 ∨ j = 7 ∨ j = 8 ∨ j = 9 by omega) with rfl | rfl | rfl | rfl | rfl | rfl | rfl | rfl | rfl | rfl <;> rfl) (Nat.le_of_ble_eq_true rfl) (Nat.le_of_ble_eq_true rfl) dX1_init_26 (fun q26_2 H hP hD hS => ?_)
  have hP : va_P D vwCl ([(h0, .inr (1, [.ref q7_1, .int 0]))] ++ ([(q7_1, .inl (cH, 6, .inr (.inr (.inr (.inr (fun _ => none))))))] ++ ([(q26_2, .inr (0, [.int 0, .null, .null, .null, .null, .int 0, .null, .null, .null, .null]))]))) H := hP
  have hD : va_D A ([(h0, .inr (1, [.ref q7_1, .int 0]))] ++ ([(q7_1, .inl (cH, 6, .inr (.inr (.inr (.inr (fun _ => none))))))] ++ ([(q26_2, .inr (0, [.int 0, .null, .null, .null, .null, .int 0, .null, .null, .null, .null]))]))) := hD
  refine W.widen (k := 2) (n := 16) (Nat.le_of_ble_eq_true rfl) (Nat.le_of_ble_eq_true rfl) ?_
  refine lv_dup hx hb dX1_init_29 rfl ?_
  refine kc_IN (As := []) (rest := [.ref q26_2, .int (nI 0), .ref q7_1]) (own := RX1) ⟨hx, hb, hml, hown, hts⟩ (c_X0_init l D cI cC cH cL _ q26_2) ⟨va_cnB (host := RX4) 0 hts ggX1_init_X0_init rfl rfl rfl hN.2.2.1 (hts (.initialized RX0) (List.mem_of_getElem? (i := 7) rfl)) k_X0_initS ⟨Nat.le_of_ble_eq_true rfl, Nat.le_of_ble_eq_true rfl⟩, rfl, (hts (.instanceMethod yX0_init) (List.mem_of_getElem? (i := 8) rfl))⟩ hP hD hK hN hS hA [2] [0, 1] rfl rfl (wr := [(h0, .inr (1, [.ref q7_1, .int 0]))] ++ ([(q7_1, .inl (cH, 6, .inr (.inr (.inr (.inr (fun _ => none))))))])) rfl (by decide) (by decide) (by decide) rfl hl.1 rfl (Nat.le_of_ble_eq_true rfl) dX1_init_30 ⟨Nat.le_of_ble_eq_true rfl, Nat.le_of_ble_eq_true rfl⟩ (fun w1 H locs hB hP hD hS => ?_)
  obtain ⟨b30_3, rfl, rfl⟩ := hB
  have hl : lv_has ls 2 [(1, .int (nI 0)), (0, .ref h0)] := hl
  have hP : va_P D vwCl ([(h0, .inr (1, [.ref q7_1, .int 0]))] ++ ([(q7_1, .inl (cH, 6, .inr (.inr (.inr (.inr (fun _ => none))))))] ++ (HW b30_3 cI z00))) H := hP
  have hD : va_D A ([(h0, .inr (1, [.ref q7_1, .int 0]))] ++ ([(q7_1, .inl (cH, 6, .inr (.inr (.inr (.inr (fun _ => none))))))] ++ (HW b30_3 cI z00))) := hD
  refine W.widen (k := 10) (n := 71) (Nat.le_of_ble_eq_true rfl) (Nat.le_of_ble_eq_true rfl) ?_
  refine kx_astq hx hb hK hP hD hS 1 2 2 0 rfl rfl rfl rfl (by decide) (by decide) dX1_init_33 (fun H locs hP hD hS => ?_)
  have hP : va_P D vwCl ([(h0, .inr (1, [.ref q7_1, .int 0]))] ++ ([(q7_1, .inl (cH, 6, .inr (.inr (.inr (.inr (va_up (fun _ => none) 0 (some (b30_3 0))))))))] ++ (HW b30_3 cI z00))) H := hP
  have hD : va_D A ([(h0, .inr (1, [.ref q7_1, .int 0]))] ++ ([(q7_1, .inl (cH, 6, .inr (.inr (.inr (.inr (va_up (fun _ => none) 0 (some (b30_3 0))))))))] ++ (HW b30_3 cI z00))) := hD
  refine lv_iinc (v := nI 1) (lv' := [(1, .int (nI 1)), (0, .ref h0)]) hx hb dX1_init_34 hl (k := 0) rfl (kx_inc 1) (by decide) rfl (fun ls hl => ?_)
  refine lv_goto (tgt := 15) hx hb dX1_init_37 (by decide) ?_
  refine lv_iload_n hx hb dX1_init_15 rfl (lv_at hl 0 rfl) ?_
  refine lv_bipush (v := nI 6) hx hb dX1_init_16 (by decide) ?_
  refine kx_icmp_ge (tgt := 40) hx hb (by omega) (by omega) dX1_init_18 (by decide) (fun c => absurd c (by omega)) (fun c_18_1 => ?_)
  refine lv_aload_n hx hb dX1_init_21 rfl (lv_at hl 1 rfl) ?_
  refine va_get (D := D) (ci := 1) (v := .ref q7_1) (C := RX1) (T := TX1) (N := 2) hx hb hts iX1_init_1 hown hK hP 0 rfl rfl 0 (by decide) (hts (.fieldLink RX1 11 "HallSights$History" "kept" "[LHallSights$Hall;") (List.mem_of_getElem? (i := 5) rfl)) (fun _ h9 => h9) rfl dX1_init_22 ?_
  refine lv_iload_n hx hb dX1_init_25 rfl (lv_at hl 0 rfl) ?_
  refine va_new (ci := 0) (fs := [.int 0, .null, .null, .null, .null, .int 0, .null, .null, .null, .null]) (C := RX0) (T := TX0) (N := 10) hx hb hts iX1_init_0 tyX0 tyX0_ok hown (hts (.classLink RX1 9 RX0) (List.mem_of_getElem? (i := 4) rfl)) (hts (.instantiable RX0 10) (List.mem_of_getElem? (i := 6) rfl)) (hts (.initialized RX0) (List.mem_of_getElem? (i := 7) rfl)) hK hP hD hS hA rfl (fun j hj => by rcases (show j = 0 ∨ j = 1 ∨ j = 2 ∨ j = 3 ∨ j = 4 ∨ j = 5 ∨ j = 6 ∨ j = 7 ∨ j = 8 ∨ j = 9 by omega) with rfl | rfl | rfl | rfl | rfl | rfl | rfl | rfl | rfl | rfl <;> rfl) (Nat.le_of_ble_eq_true rfl) (Nat.le_of_ble_eq_true rfl) dX1_init_26 (fun q26_4 H hP hD hS => ?_)
  have hP : va_P D vwCl ([(h0, .inr (1, [.ref q7_1, .int 0]))] ++ ([(q7_1, .inl (cH, 6, .inr (.inr (.inr (.inr (va_up (fun _ => none) 0 (some (b30_3 0))))))))] ++ (HW b30_3 cI z00 ++ ([(q26_4, .inr (0, [.int 0, .null, .null, .null, .null, .int 0, .null, .null, .null, .null]))])))) H := hP
  have hD : va_D A ([(h0, .inr (1, [.ref q7_1, .int 0]))] ++ ([(q7_1, .inl (cH, 6, .inr (.inr (.inr (.inr (va_up (fun _ => none) 0 (some (b30_3 0))))))))] ++ (HW b30_3 cI z00 ++ ([(q26_4, .inr (0, [.int 0, .null, .null, .null, .null, .int 0, .null, .null, .null, .null]))])))) := hD
  refine W.widen (k := 11) (n := 81) (Nat.le_of_ble_eq_true rfl) (Nat.le_of_ble_eq_true rfl) ?_
  refine lv_dup hx hb dX1_init_29 rfl ?_
  refine kc_IN (As := []) (rest := [.ref q26_4, .int (nI 1), .ref q7_1]) (own := RX1) ⟨hx, hb, hml, hown, hts⟩ (c_X0_init l D cI cC cH cL _ q26_4) ⟨va_cnB (host := RX4) 0 hts ggX1_init_X0_init rfl rfl rfl hN.2.2.1 (hts (.initialized RX0) (List.mem_of_getElem? (i := 7) rfl)) k_X0_initS ⟨Nat.le_of_ble_eq_true rfl, Nat.le_of_ble_eq_true rfl⟩, rfl, (hts (.instanceMethod yX0_init) (List.mem_of_getElem? (i := 8) rfl))⟩ hP hD hK hN hS hA [11] [0, 1, 2, 3, 4, 5, 6, 7, 8, 9, 10] rfl rfl (wr := [(h0, .inr (1, [.ref q7_1, .int 0]))] ++ ([(q7_1, .inl (cH, 6, .inr (.inr (.inr (.inr (va_up (fun _ => none) 0 (some (b30_3 0))))))))] ++ (HW b30_3 cI z00))) rfl (by decide) (by decide) (by decide) rfl hl.1 rfl (Nat.le_of_ble_eq_true rfl) dX1_init_30 ⟨Nat.le_of_ble_eq_true rfl, Nat.le_of_ble_eq_true rfl⟩ (fun w1 H locs hB hP hD hS => ?_)
  obtain ⟨b30_5, rfl, rfl⟩ := hB
  have hl : lv_has ls 2 [(1, .int (nI 1)), (0, .ref h0)] := hl
  have hP : va_P D vwCl ([(h0, .inr (1, [.ref q7_1, .int 0]))] ++ ([(q7_1, .inl (cH, 6, .inr (.inr (.inr (.inr (va_up (fun _ => none) 0 (some (b30_3 0))))))))] ++ (HW b30_3 cI z00 ++ (HW b30_5 cI z00)))) H := hP
  have hD : va_D A ([(h0, .inr (1, [.ref q7_1, .int 0]))] ++ ([(q7_1, .inl (cH, 6, .inr (.inr (.inr (.inr (va_up (fun _ => none) 0 (some (b30_3 0))))))))] ++ (HW b30_3 cI z00 ++ (HW b30_5 cI z00)))) := hD
  refine W.widen (k := 19) (n := 136) (Nat.le_of_ble_eq_true rfl) (Nat.le_of_ble_eq_true rfl) ?_
  refine kx_astq hx hb hK hP hD hS 1 2 11 0 rfl rfl rfl rfl (by decide) (by decide) dX1_init_33 (fun H locs hP hD hS => ?_)
  have hP : va_P D vwCl ([(h0, .inr (1, [.ref q7_1, .int 0]))] ++ ([(q7_1, .inl (cH, 6, .inr (.inr (.inr (.inr (va_up (va_up (fun _ => none) 0 (some (b30_3 0))) 1 (some (b30_5 0))))))))] ++ (HW b30_3 cI z00 ++ (HW b30_5 cI z00)))) H := hP
  have hD : va_D A ([(h0, .inr (1, [.ref q7_1, .int 0]))] ++ ([(q7_1, .inl (cH, 6, .inr (.inr (.inr (.inr (va_up (va_up (fun _ => none) 0 (some (b30_3 0))) 1 (some (b30_5 0))))))))] ++ (HW b30_3 cI z00 ++ (HW b30_5 cI z00)))) := hD
  refine lv_iinc (v := nI 2) (lv' := [(1, .int (nI 2)), (0, .ref h0)]) hx hb dX1_init_34 hl (k := 0) rfl (kx_inc 1) (by decide) rfl (fun ls hl => ?_)
  refine lv_goto (tgt := 15) hx hb dX1_init_37 (by decide) ?_
  refine lv_iload_n hx hb dX1_init_15 rfl (lv_at hl 0 rfl) ?_
  refine lv_bipush (v := nI 6) hx hb dX1_init_16 (by decide) ?_
  refine kx_icmp_ge (tgt := 40) hx hb (by omega) (by omega) dX1_init_18 (by decide) (fun c => absurd c (by omega)) (fun c_18_2 => ?_)
  refine lv_aload_n hx hb dX1_init_21 rfl (lv_at hl 1 rfl) ?_
  refine va_get (D := D) (ci := 1) (v := .ref q7_1) (C := RX1) (T := TX1) (N := 2) hx hb hts iX1_init_1 hown hK hP 0 rfl rfl 0 (by decide) (hts (.fieldLink RX1 11 "HallSights$History" "kept" "[LHallSights$Hall;") (List.mem_of_getElem? (i := 5) rfl)) (fun _ h9 => h9) rfl dX1_init_22 ?_
  refine lv_iload_n hx hb dX1_init_25 rfl (lv_at hl 0 rfl) ?_
  refine va_new (ci := 0) (fs := [.int 0, .null, .null, .null, .null, .int 0, .null, .null, .null, .null]) (C := RX0) (T := TX0) (N := 10) hx hb hts iX1_init_0 tyX0 tyX0_ok hown (hts (.classLink RX1 9 RX0) (List.mem_of_getElem? (i := 4) rfl)) (hts (.instantiable RX0 10) (List.mem_of_getElem? (i := 6) rfl)) (hts (.initialized RX0) (List.mem_of_getElem? (i := 7) rfl)) hK hP hD hS hA rfl (fun j hj => by rcases (show j = 0 ∨ j = 1 ∨ j = 2 ∨ j = 3 ∨ j = 4 ∨ j = 5 ∨ j = 6 ∨ j = 7 ∨ j = 8 ∨ j = 9 by omega) with rfl | rfl | rfl | rfl | rfl | rfl | rfl | rfl | rfl | rfl <;> rfl) (Nat.le_of_ble_eq_true rfl) (Nat.le_of_ble_eq_true rfl) dX1_init_26 (fun q26_6 H hP hD hS => ?_)
  have hP : va_P D vwCl ([(h0, .inr (1, [.ref q7_1, .int 0]))] ++ ([(q7_1, .inl (cH, 6, .inr (.inr (.inr (.inr (va_up (va_up (fun _ => none) 0 (some (b30_3 0))) 1 (some (b30_5 0))))))))] ++ (HW b30_3 cI z00 ++ (HW b30_5 cI z00 ++ ([(q26_6, .inr (0, [.int 0, .null, .null, .null, .null, .int 0, .null, .null, .null, .null]))]))))) H := hP
  have hD : va_D A ([(h0, .inr (1, [.ref q7_1, .int 0]))] ++ ([(q7_1, .inl (cH, 6, .inr (.inr (.inr (.inr (va_up (va_up (fun _ => none) 0 (some (b30_3 0))) 1 (some (b30_5 0))))))))] ++ (HW b30_3 cI z00 ++ (HW b30_5 cI z00 ++ ([(q26_6, .inr (0, [.int 0, .null, .null, .null, .null, .int 0, .null, .null, .null, .null]))]))))) := hD
  refine W.widen (k := 20) (n := 146) (Nat.le_of_ble_eq_true rfl) (Nat.le_of_ble_eq_true rfl) ?_
  refine lv_dup hx hb dX1_init_29 rfl ?_
  refine kc_IN (As := []) (rest := [.ref q26_6, .int (nI 2), .ref q7_1]) (own := RX1) ⟨hx, hb, hml, hown, hts⟩ (c_X0_init l D cI cC cH cL _ q26_6) ⟨va_cnB (host := RX4) 0 hts ggX1_init_X0_init rfl rfl rfl hN.2.2.1 (hts (.initialized RX0) (List.mem_of_getElem? (i := 7) rfl)) k_X0_initS ⟨Nat.le_of_ble_eq_true rfl, Nat.le_of_ble_eq_true rfl⟩, rfl, (hts (.instanceMethod yX0_init) (List.mem_of_getElem? (i := 8) rfl))⟩ hP hD hK hN hS hA [20] [0, 1, 2, 3, 4, 5, 6, 7, 8, 9, 10, 11, 12, 13, 14, 15, 16, 17, 18, 19] rfl rfl (wr := [(h0, .inr (1, [.ref q7_1, .int 0]))] ++ ([(q7_1, .inl (cH, 6, .inr (.inr (.inr (.inr (va_up (va_up (fun _ => none) 0 (some (b30_3 0))) 1 (some (b30_5 0))))))))] ++ (HW b30_3 cI z00 ++ (HW b30_5 cI z00)))) rfl (by decide) (by decide) (by decide) rfl hl.1 rfl (Nat.le_of_ble_eq_true rfl) dX1_init_30 ⟨Nat.le_of_ble_eq_true rfl, Nat.le_of_ble_eq_true rfl⟩ (fun w1 H locs hB hP hD hS => ?_)
  obtain ⟨b30_7, rfl, rfl⟩ := hB
  have hl : lv_has ls 2 [(1, .int (nI 2)), (0, .ref h0)] := hl
  have hP : va_P D vwCl ([(h0, .inr (1, [.ref q7_1, .int 0]))] ++ ([(q7_1, .inl (cH, 6, .inr (.inr (.inr (.inr (va_up (va_up (fun _ => none) 0 (some (b30_3 0))) 1 (some (b30_5 0))))))))] ++ (HW b30_3 cI z00 ++ (HW b30_5 cI z00 ++ (HW b30_7 cI z00))))) H := hP
  have hD : va_D A ([(h0, .inr (1, [.ref q7_1, .int 0]))] ++ ([(q7_1, .inl (cH, 6, .inr (.inr (.inr (.inr (va_up (va_up (fun _ => none) 0 (some (b30_3 0))) 1 (some (b30_5 0))))))))] ++ (HW b30_3 cI z00 ++ (HW b30_5 cI z00 ++ (HW b30_7 cI z00))))) := hD
  refine W.widen (k := 28) (n := 201) (Nat.le_of_ble_eq_true rfl) (Nat.le_of_ble_eq_true rfl) ?_
  refine kx_astq hx hb hK hP hD hS 1 2 20 0 rfl rfl rfl rfl (by decide) (by decide) dX1_init_33 (fun H locs hP hD hS => ?_)
  have hP : va_P D vwCl ([(h0, .inr (1, [.ref q7_1, .int 0]))] ++ ([(q7_1, .inl (cH, 6, .inr (.inr (.inr (.inr (va_up (va_up (va_up (fun _ => none) 0 (some (b30_3 0))) 1 (some (b30_5 0))) 2 (some (b30_7 0))))))))] ++ (HW b30_3 cI z00 ++ (HW b30_5 cI z00 ++ (HW b30_7 cI z00))))) H := hP
  have hD : va_D A ([(h0, .inr (1, [.ref q7_1, .int 0]))] ++ ([(q7_1, .inl (cH, 6, .inr (.inr (.inr (.inr (va_up (va_up (va_up (fun _ => none) 0 (some (b30_3 0))) 1 (some (b30_5 0))) 2 (some (b30_7 0))))))))] ++ (HW b30_3 cI z00 ++ (HW b30_5 cI z00 ++ (HW b30_7 cI z00))))) := hD
  refine lv_iinc (v := nI 3) (lv' := [(1, .int (nI 3)), (0, .ref h0)]) hx hb dX1_init_34 hl (k := 0) rfl (kx_inc 1) (by decide) rfl (fun ls hl => ?_)
  refine lv_goto (tgt := 15) hx hb dX1_init_37 (by decide) ?_
  refine lv_iload_n hx hb dX1_init_15 rfl (lv_at hl 0 rfl) ?_
  refine lv_bipush (v := nI 6) hx hb dX1_init_16 (by decide) ?_
  refine kx_icmp_ge (tgt := 40) hx hb (by omega) (by omega) dX1_init_18 (by decide) (fun c => absurd c (by omega)) (fun c_18_3 => ?_)
  refine lv_aload_n hx hb dX1_init_21 rfl (lv_at hl 1 rfl) ?_
  refine va_get (D := D) (ci := 1) (v := .ref q7_1) (C := RX1) (T := TX1) (N := 2) hx hb hts iX1_init_1 hown hK hP 0 rfl rfl 0 (by decide) (hts (.fieldLink RX1 11 "HallSights$History" "kept" "[LHallSights$Hall;") (List.mem_of_getElem? (i := 5) rfl)) (fun _ h9 => h9) rfl dX1_init_22 ?_
  refine lv_iload_n hx hb dX1_init_25 rfl (lv_at hl 0 rfl) ?_
  refine va_new (ci := 0) (fs := [.int 0, .null, .null, .null, .null, .int 0, .null, .null, .null, .null]) (C := RX0) (T := TX0) (N := 10) hx hb hts iX1_init_0 tyX0 tyX0_ok hown (hts (.classLink RX1 9 RX0) (List.mem_of_getElem? (i := 4) rfl)) (hts (.instantiable RX0 10) (List.mem_of_getElem? (i := 6) rfl)) (hts (.initialized RX0) (List.mem_of_getElem? (i := 7) rfl)) hK hP hD hS hA rfl (fun j hj => by rcases (show j = 0 ∨ j = 1 ∨ j = 2 ∨ j = 3 ∨ j = 4 ∨ j = 5 ∨ j = 6 ∨ j = 7 ∨ j = 8 ∨ j = 9 by omega) with rfl | rfl | rfl | rfl | rfl | rfl | rfl | rfl | rfl | rfl <;> rfl) (Nat.le_of_ble_eq_true rfl) (Nat.le_of_ble_eq_true rfl) dX1_init_26 (fun q26_8 H hP hD hS => ?_)
  have hP : va_P D vwCl ([(h0, .inr (1, [.ref q7_1, .int 0]))] ++ ([(q7_1, .inl (cH, 6, .inr (.inr (.inr (.inr (va_up (va_up (va_up (fun _ => none) 0 (some (b30_3 0))) 1 (some (b30_5 0))) 2 (some (b30_7 0))))))))] ++ (HW b30_3 cI z00 ++ (HW b30_5 cI z00 ++ (HW b30_7 cI z00 ++ ([(q26_8, .inr (0, [.int 0, .null, .null, .null, .null, .int 0, .null, .null, .null, .null]))])))))) H := hP
  have hD : va_D A ([(h0, .inr (1, [.ref q7_1, .int 0]))] ++ ([(q7_1, .inl (cH, 6, .inr (.inr (.inr (.inr (va_up (va_up (va_up (fun _ => none) 0 (some (b30_3 0))) 1 (some (b30_5 0))) 2 (some (b30_7 0))))))))] ++ (HW b30_3 cI z00 ++ (HW b30_5 cI z00 ++ (HW b30_7 cI z00 ++ ([(q26_8, .inr (0, [.int 0, .null, .null, .null, .null, .int 0, .null, .null, .null, .null]))])))))) := hD
  refine W.widen (k := 29) (n := 211) (Nat.le_of_ble_eq_true rfl) (Nat.le_of_ble_eq_true rfl) ?_
  refine lv_dup hx hb dX1_init_29 rfl ?_
  refine kc_IN (As := []) (rest := [.ref q26_8, .int (nI 3), .ref q7_1]) (own := RX1) ⟨hx, hb, hml, hown, hts⟩ (c_X0_init l D cI cC cH cL _ q26_8) ⟨va_cnB (host := RX4) 0 hts ggX1_init_X0_init rfl rfl rfl hN.2.2.1 (hts (.initialized RX0) (List.mem_of_getElem? (i := 7) rfl)) k_X0_initS ⟨Nat.le_of_ble_eq_true rfl, Nat.le_of_ble_eq_true rfl⟩, rfl, (hts (.instanceMethod yX0_init) (List.mem_of_getElem? (i := 8) rfl))⟩ hP hD hK hN hS hA [29] [0, 1, 2, 3, 4, 5, 6, 7, 8, 9, 10, 11, 12, 13, 14, 15, 16, 17, 18, 19, 20, 21, 22, 23, 24, 25, 26, 27, 28] rfl rfl (wr := [(h0, .inr (1, [.ref q7_1, .int 0]))] ++ ([(q7_1, .inl (cH, 6, .inr (.inr (.inr (.inr (va_up (va_up (va_up (fun _ => none) 0 (some (b30_3 0))) 1 (some (b30_5 0))) 2 (some (b30_7 0))))))))] ++ (HW b30_3 cI z00 ++ (HW b30_5 cI z00 ++ (HW b30_7 cI z00))))) rfl (by decide) (by decide) (by decide) rfl hl.1 rfl (Nat.le_of_ble_eq_true rfl) dX1_init_30 ⟨Nat.le_of_ble_eq_true rfl, Nat.le_of_ble_eq_true rfl⟩ (fun w1 H locs hB hP hD hS => ?_)
  obtain ⟨b30_9, rfl, rfl⟩ := hB
  have hl : lv_has ls 2 [(1, .int (nI 3)), (0, .ref h0)] := hl
  have hP : va_P D vwCl ([(h0, .inr (1, [.ref q7_1, .int 0]))] ++ ([(q7_1, .inl (cH, 6, .inr (.inr (.inr (.inr (va_up (va_up (va_up (fun _ => none) 0 (some (b30_3 0))) 1 (some (b30_5 0))) 2 (some (b30_7 0))))))))] ++ (HW b30_3 cI z00 ++ (HW b30_5 cI z00 ++ (HW b30_7 cI z00 ++ (HW b30_9 cI z00)))))) H := hP
  have hD : va_D A ([(h0, .inr (1, [.ref q7_1, .int 0]))] ++ ([(q7_1, .inl (cH, 6, .inr (.inr (.inr (.inr (va_up (va_up (va_up (fun _ => none) 0 (some (b30_3 0))) 1 (some (b30_5 0))) 2 (some (b30_7 0))))))))] ++ (HW b30_3 cI z00 ++ (HW b30_5 cI z00 ++ (HW b30_7 cI z00 ++ (HW b30_9 cI z00)))))) := hD
  refine W.widen (k := 37) (n := 266) (Nat.le_of_ble_eq_true rfl) (Nat.le_of_ble_eq_true rfl) ?_
  refine kx_astq hx hb hK hP hD hS 1 2 29 0 rfl rfl rfl rfl (by decide) (by decide) dX1_init_33 (fun H locs hP hD hS => ?_)
  have hP : va_P D vwCl ([(h0, .inr (1, [.ref q7_1, .int 0]))] ++ ([(q7_1, .inl (cH, 6, .inr (.inr (.inr (.inr (va_up (va_up (va_up (va_up (fun _ => none) 0 (some (b30_3 0))) 1 (some (b30_5 0))) 2 (some (b30_7 0))) 3 (some (b30_9 0))))))))] ++ (HW b30_3 cI z00 ++ (HW b30_5 cI z00 ++ (HW b30_7 cI z00 ++ (HW b30_9 cI z00)))))) H := hP
  have hD : va_D A ([(h0, .inr (1, [.ref q7_1, .int 0]))] ++ ([(q7_1, .inl (cH, 6, .inr (.inr (.inr (.inr (va_up (va_up (va_up (va_up (fun _ => none) 0 (some (b30_3 0))) 1 (some (b30_5 0))) 2 (some (b30_7 0))) 3 (some (b30_9 0))))))))] ++ (HW b30_3 cI z00 ++ (HW b30_5 cI z00 ++ (HW b30_7 cI z00 ++ (HW b30_9 cI z00)))))) := hD
  refine lv_iinc (v := nI 4) (lv' := [(1, .int (nI 4)), (0, .ref h0)]) hx hb dX1_init_34 hl (k := 0) rfl (kx_inc 1) (by decide) rfl (fun ls hl => ?_)
  refine lv_goto (tgt := 15) hx hb dX1_init_37 (by decide) ?_
  refine lv_iload_n hx hb dX1_init_15 rfl (lv_at hl 0 rfl) ?_
  refine lv_bipush (v := nI 6) hx hb dX1_init_16 (by decide) ?_
  refine kx_icmp_ge (tgt := 40) hx hb (by omega) (by omega) dX1_init_18 (by decide) (fun c => absurd c (by omega)) (fun c_18_4 => ?_)
  refine lv_aload_n hx hb dX1_init_21 rfl (lv_at hl 1 rfl) ?_
  refine va_get (D := D) (ci := 1) (v := .ref q7_1) (C := RX1) (T := TX1) (N := 2) hx hb hts iX1_init_1 hown hK hP 0 rfl rfl 0 (by decide) (hts (.fieldLink RX1 11 "HallSights$History" "kept" "[LHallSights$Hall;") (List.mem_of_getElem? (i := 5) rfl)) (fun _ h9 => h9) rfl dX1_init_22 ?_
  refine lv_iload_n hx hb dX1_init_25 rfl (lv_at hl 0 rfl) ?_
  refine va_new (ci := 0) (fs := [.int 0, .null, .null, .null, .null, .int 0, .null, .null, .null, .null]) (C := RX0) (T := TX0) (N := 10) hx hb hts iX1_init_0 tyX0 tyX0_ok hown (hts (.classLink RX1 9 RX0) (List.mem_of_getElem? (i := 4) rfl)) (hts (.instantiable RX0 10) (List.mem_of_getElem? (i := 6) rfl)) (hts (.initialized RX0) (List.mem_of_getElem? (i := 7) rfl)) hK hP hD hS hA rfl (fun j hj => by rcases (show j = 0 ∨ j = 1 ∨ j = 2 ∨ j = 3 ∨ j = 4 ∨ j = 5 ∨ j = 6 ∨ j = 7 ∨ j = 8 ∨ j = 9 by omega) with rfl | rfl | rfl | rfl | rfl | rfl | rfl | rfl | rfl | rfl <;> rfl) (Nat.le_of_ble_eq_true rfl) (Nat.le_of_ble_eq_true rfl) dX1_init_26 (fun q26_10 H hP hD hS => ?_)
  have hP : va_P D vwCl ([(h0, .inr (1, [.ref q7_1, .int 0]))] ++ ([(q7_1, .inl (cH, 6, .inr (.inr (.inr (.inr (va_up (va_up (va_up (va_up (fun _ => none) 0 (some (b30_3 0))) 1 (some (b30_5 0))) 2 (some (b30_7 0))) 3 (some (b30_9 0))))))))] ++ (HW b30_3 cI z00 ++ (HW b30_5 cI z00 ++ (HW b30_7 cI z00 ++ (HW b30_9 cI z00 ++ ([(q26_10, .inr (0, [.int 0, .null, .null, .null, .null, .int 0, .null, .null, .null, .null]))]))))))) H := hP
  have hD : va_D A ([(h0, .inr (1, [.ref q7_1, .int 0]))] ++ ([(q7_1, .inl (cH, 6, .inr (.inr (.inr (.inr (va_up (va_up (va_up (va_up (fun _ => none) 0 (some (b30_3 0))) 1 (some (b30_5 0))) 2 (some (b30_7 0))) 3 (some (b30_9 0))))))))] ++ (HW b30_3 cI z00 ++ (HW b30_5 cI z00 ++ (HW b30_7 cI z00 ++ (HW b30_9 cI z00 ++ ([(q26_10, .inr (0, [.int 0, .null, .null, .null, .null, .int 0, .null, .null, .null, .null]))]))))))) := hD
  refine W.widen (k := 38) (n := 276) (Nat.le_of_ble_eq_true rfl) (Nat.le_of_ble_eq_true rfl) ?_
  refine lv_dup hx hb dX1_init_29 rfl ?_
  refine kc_IN (As := []) (rest := [.ref q26_10, .int (nI 4), .ref q7_1]) (own := RX1) ⟨hx, hb, hml, hown, hts⟩ (c_X0_init l D cI cC cH cL _ q26_10) ⟨va_cnB (host := RX4) 0 hts ggX1_init_X0_init rfl rfl rfl hN.2.2.1 (hts (.initialized RX0) (List.mem_of_getElem? (i := 7) rfl)) k_X0_initS ⟨Nat.le_of_ble_eq_true rfl, Nat.le_of_ble_eq_true rfl⟩, rfl, (hts (.instanceMethod yX0_init) (List.mem_of_getElem? (i := 8) rfl))⟩ hP hD hK hN hS hA [38] (0 :: 1 :: 2 :: 3 :: 4 :: 5 :: 6 :: 7 :: 8 :: 9 :: 10 :: 11 :: 12 :: 13 :: 14 :: 15 :: 16 :: 17 :: 18 :: 19 :: 20 :: 21 :: 22 :: 23 :: 24 :: 25 :: 26 :: 27 :: 28 :: 29 :: 30 :: 31 :: 32 :: 33 :: 34 :: 35 :: 36 :: 37 :: []) rfl rfl (wr := [(h0, .inr (1, [.ref q7_1, .int 0]))] ++ ([(q7_1, .inl (cH, 6, .inr (.inr (.inr (.inr (va_up (va_up (va_up (va_up (fun _ => none) 0 (some (b30_3 0))) 1 (some (b30_5 0))) 2 (some (b30_7 0))) 3 (some (b30_9 0))))))))] ++ (HW b30_3 cI z00 ++ (HW b30_5 cI z00 ++ (HW b30_7 cI z00 ++ (HW b30_9 cI z00)))))) rfl (by decide) (by decide) (by decide) rfl hl.1 rfl (Nat.le_of_ble_eq_true rfl) dX1_init_30 ⟨Nat.le_of_ble_eq_true rfl, Nat.le_of_ble_eq_true rfl⟩ (fun w1 H locs hB hP hD hS => ?_)
  obtain ⟨b30_11, rfl, rfl⟩ := hB
  have hl : lv_has ls 2 [(1, .int (nI 4)), (0, .ref h0)] := hl
  have hP : va_P D vwCl ([(h0, .inr (1, [.ref q7_1, .int 0]))] ++ ([(q7_1, .inl (cH, 6, .inr (.inr (.inr (.inr (va_up (va_up (va_up (va_up (fun _ => none) 0 (some (b30_3 0))) 1 (some (b30_5 0))) 2 (some (b30_7 0))) 3 (some (b30_9 0))))))))] ++ (HW b30_3 cI z00 ++ (HW b30_5 cI z00 ++ (HW b30_7 cI z00 ++ (HW b30_9 cI z00 ++ (HW b30_11 cI z00))))))) H := hP
  have hD : va_D A ([(h0, .inr (1, [.ref q7_1, .int 0]))] ++ ([(q7_1, .inl (cH, 6, .inr (.inr (.inr (.inr (va_up (va_up (va_up (va_up (fun _ => none) 0 (some (b30_3 0))) 1 (some (b30_5 0))) 2 (some (b30_7 0))) 3 (some (b30_9 0))))))))] ++ (HW b30_3 cI z00 ++ (HW b30_5 cI z00 ++ (HW b30_7 cI z00 ++ (HW b30_9 cI z00 ++ (HW b30_11 cI z00))))))) := hD
  refine W.widen (k := 46) (n := 331) (Nat.le_of_ble_eq_true rfl) (Nat.le_of_ble_eq_true rfl) ?_
  refine kx_astq hx hb hK hP hD hS 1 2 38 0 rfl rfl rfl rfl (by decide) (by decide) dX1_init_33 (fun H locs hP hD hS => ?_)
  have hP : va_P D vwCl ([(h0, .inr (1, [.ref q7_1, .int 0]))] ++ ([(q7_1, .inl (cH, 6, .inr (.inr (.inr (.inr (va_up (va_up (va_up (va_up (va_up (fun _ => none) 0 (some (b30_3 0))) 1 (some (b30_5 0))) 2 (some (b30_7 0))) 3 (some (b30_9 0))) 4 (some (b30_11 0))))))))] ++ (HW b30_3 cI z00 ++ (HW b30_5 cI z00 ++ (HW b30_7 cI z00 ++ (HW b30_9 cI z00 ++ (HW b30_11 cI z00))))))) H := hP
  have hD : va_D A ([(h0, .inr (1, [.ref q7_1, .int 0]))] ++ ([(q7_1, .inl (cH, 6, .inr (.inr (.inr (.inr (va_up (va_up (va_up (va_up (va_up (fun _ => none) 0 (some (b30_3 0))) 1 (some (b30_5 0))) 2 (some (b30_7 0))) 3 (some (b30_9 0))) 4 (some (b30_11 0))))))))] ++ (HW b30_3 cI z00 ++ (HW b30_5 cI z00 ++ (HW b30_7 cI z00 ++ (HW b30_9 cI z00 ++ (HW b30_11 cI z00))))))) := hD
  refine lv_iinc (v := nI 5) (lv' := [(1, .int (nI 5)), (0, .ref h0)]) hx hb dX1_init_34 hl (k := 0) rfl (kx_inc 1) (by decide) rfl (fun ls hl => ?_)
  refine lv_goto (tgt := 15) hx hb dX1_init_37 (by decide) ?_
  refine lv_iload_n hx hb dX1_init_15 rfl (lv_at hl 0 rfl) ?_
  refine lv_bipush (v := nI 6) hx hb dX1_init_16 (by decide) ?_
  refine kx_icmp_ge (tgt := 40) hx hb (by omega) (by omega) dX1_init_18 (by decide) (fun c => absurd c (by omega)) (fun c_18_5 => ?_)
  refine lv_aload_n hx hb dX1_init_21 rfl (lv_at hl 1 rfl) ?_
  refine va_get (D := D) (ci := 1) (v := .ref q7_1) (C := RX1) (T := TX1) (N := 2) hx hb hts iX1_init_1 hown hK hP 0 rfl rfl 0 (by decide) (hts (.fieldLink RX1 11 "HallSights$History" "kept" "[LHallSights$Hall;") (List.mem_of_getElem? (i := 5) rfl)) (fun _ h9 => h9) rfl dX1_init_22 ?_
  refine lv_iload_n hx hb dX1_init_25 rfl (lv_at hl 0 rfl) ?_
  refine va_new (ci := 0) (fs := [.int 0, .null, .null, .null, .null, .int 0, .null, .null, .null, .null]) (C := RX0) (T := TX0) (N := 10) hx hb hts iX1_init_0 tyX0 tyX0_ok hown (hts (.classLink RX1 9 RX0) (List.mem_of_getElem? (i := 4) rfl)) (hts (.instantiable RX0 10) (List.mem_of_getElem? (i := 6) rfl)) (hts (.initialized RX0) (List.mem_of_getElem? (i := 7) rfl)) hK hP hD hS hA rfl (fun j hj => by rcases (show j = 0 ∨ j = 1 ∨ j = 2 ∨ j = 3 ∨ j = 4 ∨ j = 5 ∨ j = 6 ∨ j = 7 ∨ j = 8 ∨ j = 9 by omega) with rfl | rfl | rfl | rfl | rfl | rfl | rfl | rfl | rfl | rfl <;> rfl) (Nat.le_of_ble_eq_true rfl) (Nat.le_of_ble_eq_true rfl) dX1_init_26 (fun q26_12 H hP hD hS => ?_)
  have hP : va_P D vwCl ([(h0, .inr (1, [.ref q7_1, .int 0]))] ++ ([(q7_1, .inl (cH, 6, .inr (.inr (.inr (.inr (va_up (va_up (va_up (va_up (va_up (fun _ => none) 0 (some (b30_3 0))) 1 (some (b30_5 0))) 2 (some (b30_7 0))) 3 (some (b30_9 0))) 4 (some (b30_11 0))))))))] ++ (HW b30_3 cI z00 ++ (HW b30_5 cI z00 ++ (HW b30_7 cI z00 ++ (HW b30_9 cI z00 ++ (HW b30_11 cI z00 ++ ([(q26_12, .inr (0, [.int 0, .null, .null, .null, .null, .int 0, .null, .null, .null, .null]))])))))))) H := hP
  have hD : va_D A ([(h0, .inr (1, [.ref q7_1, .int 0]))] ++ ([(q7_1, .inl (cH, 6, .inr (.inr (.inr (.inr (va_up (va_up (va_up (va_up (va_up (fun _ => none) 0 (some (b30_3 0))) 1 (some (b30_5 0))) 2 (some (b30_7 0))) 3 (some (b30_9 0))) 4 (some (b30_11 0))))))))] ++ (HW b30_3 cI z00 ++ (HW b30_5 cI z00 ++ (HW b30_7 cI z00 ++ (HW b30_9 cI z00 ++ (HW b30_11 cI z00 ++ ([(q26_12, .inr (0, [.int 0, .null, .null, .null, .null, .int 0, .null, .null, .null, .null]))])))))))) := hD
  refine W.widen (k := 47) (n := 341) (Nat.le_of_ble_eq_true rfl) (Nat.le_of_ble_eq_true rfl) ?_
  refine lv_dup hx hb dX1_init_29 rfl ?_
  refine kc_IN (As := []) (rest := [.ref q26_12, .int (nI 5), .ref q7_1]) (own := RX1) ⟨hx, hb, hml, hown, hts⟩ (c_X0_init l D cI cC cH cL _ q26_12) ⟨va_cnB (host := RX4) 0 hts ggX1_init_X0_init rfl rfl rfl hN.2.2.1 (hts (.initialized RX0) (List.mem_of_getElem? (i := 7) rfl)) k_X0_initS ⟨Nat.le_of_ble_eq_true rfl, Nat.le_of_ble_eq_true rfl⟩, rfl, (hts (.instanceMethod yX0_init) (List.mem_of_getElem? (i := 8) rfl))⟩ hP hD hK hN hS hA [47] (0 :: 1 :: 2 :: 3 :: 4 :: 5 :: 6 :: 7 :: 8 :: 9 :: 10 :: 11 :: 12 :: 13 :: 14 :: 15 :: 16 :: 17 :: 18 :: 19 :: 20 :: 21 :: 22 :: 23 :: 24 :: 25 :: 26 :: 27 :: 28 :: 29 :: 30 :: 31 :: 32 :: 33 :: 34 :: 35 :: 36 :: 37 :: 38 :: 39 :: 40 :: 41 :: 42 :: 43 :: 44 :: 45 :: 46 :: []) rfl rfl (wr := [(h0, .inr (1, [.ref q7_1, .int 0]))] ++ ([(q7_1, .inl (cH, 6, .inr (.inr (.inr (.inr (va_up (va_up (va_up (va_up (va_up (fun _ => none) 0 (some (b30_3 0))) 1 (some (b30_5 0))) 2 (some (b30_7 0))) 3 (some (b30_9 0))) 4 (some (b30_11 0))))))))] ++ (HW b30_3 cI z00 ++ (HW b30_5 cI z00 ++ (HW b30_7 cI z00 ++ (HW b30_9 cI z00 ++ (HW b30_11 cI z00))))))) rfl (by decide) (by decide) (by decide) rfl hl.1 rfl (Nat.le_of_ble_eq_true rfl) dX1_init_30 ⟨Nat.le_of_ble_eq_true rfl, Nat.le_of_ble_eq_true rfl⟩ (fun w1 H locs hB hP hD hS => ?_)
  obtain ⟨b30_13, rfl, rfl⟩ := hB
  have hl : lv_has ls 2 [(1, .int (nI 5)), (0, .ref h0)] := hl
  have hP : va_P D vwCl ([(h0, .inr (1, [.ref q7_1, .int 0]))] ++ ([(q7_1, .inl (cH, 6, .inr (.inr (.inr (.inr (va_up (va_up (va_up (va_up (va_up (fun _ => none) 0 (some (b30_3 0))) 1 (some (b30_5 0))) 2 (some (b30_7 0))) 3 (some (b30_9 0))) 4 (some (b30_11 0))))))))] ++ (HW b30_3 cI z00 ++ (HW b30_5 cI z00 ++ (HW b30_7 cI z00 ++ (HW b30_9 cI z00 ++ (HW b30_11 cI z00 ++ (HW b30_13 cI z00)))))))) H := hP
  have hD : va_D A ([(h0, .inr (1, [.ref q7_1, .int 0]))] ++ ([(q7_1, .inl (cH, 6, .inr (.inr (.inr (.inr (va_up (va_up (va_up (va_up (va_up (fun _ => none) 0 (some (b30_3 0))) 1 (some (b30_5 0))) 2 (some (b30_7 0))) 3 (some (b30_9 0))) 4 (some (b30_11 0))))))))] ++ (HW b30_3 cI z00 ++ (HW b30_5 cI z00 ++ (HW b30_7 cI z00 ++ (HW b30_9 cI z00 ++ (HW b30_11 cI z00 ++ (HW b30_13 cI z00)))))))) := hD
  refine W.widen (k := 55) (n := 396) (Nat.le_of_ble_eq_true rfl) (Nat.le_of_ble_eq_true rfl) ?_
  refine kx_astq hx hb hK hP hD hS 1 2 47 0 rfl rfl rfl rfl (by decide) (by decide) dX1_init_33 (fun H locs hP hD hS => ?_)
  have hP : va_P D vwCl ([(h0, .inr (1, [.ref q7_1, .int 0]))] ++ ([(q7_1, .inl (cH, 6, .inr (.inr (.inr (.inr (va_up (va_up (va_up (va_up (va_up (va_up (fun _ => none) 0 (some (b30_3 0))) 1 (some (b30_5 0))) 2 (some (b30_7 0))) 3 (some (b30_9 0))) 4 (some (b30_11 0))) 5 (some (b30_13 0))))))))] ++ (HW b30_3 cI z00 ++ (HW b30_5 cI z00 ++ (HW b30_7 cI z00 ++ (HW b30_9 cI z00 ++ (HW b30_11 cI z00 ++ (HW b30_13 cI z00)))))))) H := hP
  have hD : va_D A ([(h0, .inr (1, [.ref q7_1, .int 0]))] ++ ([(q7_1, .inl (cH, 6, .inr (.inr (.inr (.inr (va_up (va_up (va_up (va_up (va_up (va_up (fun _ => none) 0 (some (b30_3 0))) 1 (some (b30_5 0))) 2 (some (b30_7 0))) 3 (some (b30_9 0))) 4 (some (b30_11 0))) 5 (some (b30_13 0))))))))] ++ (HW b30_3 cI z00 ++ (HW b30_5 cI z00 ++ (HW b30_7 cI z00 ++ (HW b30_9 cI z00 ++ (HW b30_11 cI z00 ++ (HW b30_13 cI z00)))))))) := hD
  refine lv_iinc (v := nI 6) (lv' := [(1, .int (nI 6)), (0, .ref h0)]) hx hb dX1_init_34 hl (k := 0) rfl (kx_inc 1) (by decide) rfl (fun ls hl => ?_)
  refine lv_goto (tgt := 15) hx hb dX1_init_37 (by decide) ?_
  refine lv_iload_n hx hb dX1_init_15 rfl (lv_at hl 0 rfl) ?_
  refine lv_bipush (v := nI 6) hx hb dX1_init_16 (by decide) ?_
  refine kx_icmp_ge (tgt := 40) hx hb (by omega) (by omega) dX1_init_18 (by decide) (fun c_18_6 => ?_) (fun c => absurd c (by omega))
  have hP : va_P D vwCl (KWz (fun k => ([h0, q7_1] : List Nat).getD k 0) (fun i => ([b30_3, b30_5, b30_7, b30_9, b30_11, b30_13] : List (Nat → Nat)).getD i b30_3) cI cH 0 (va_up (va_up (va_up (va_up (va_up (va_up (fun _ => none) 0 (some (b30_3 0))) 1 (some (b30_5 0))) 2 (some (b30_7 0))) 3 (some (b30_9 0))) 4 (some (b30_11 0))) 5 (some (b30_13 0))) z00 z00 z00 z00 z00 z00) H := hP
  have hP : va_P D vwCl (KW (fun k => ([h0, q7_1] : List Nat).getD k 0) (fun i => ([b30_3, b30_5, b30_7, b30_9, b30_11, b30_13] : List (Nat → Nat)).getD i b30_3) cI cH 0 (fun _ => z00)) H := arr_extq hP 1 rfl (fun j hj => by rcases (show j = 0 ∨ j = 1 ∨ j = 2 ∨ j = 3 ∨ j = 4 ∨ j = 5 by omega) with rfl | rfl | rfl | rfl | rfl | rfl <;> rfl)
  have hD : va_D A (KW (fun k => ([h0, q7_1] : List Nat).getD k 0) (fun i => ([b30_3, b30_5, b30_7, b30_9, b30_11, b30_13] : List (Nat → Nat)).getD i b30_3) cI cH 0 (fun _ => z00)) := vaD_x hD rfl
  exact W.vret hx hb hrt (fun t ht _ => ⟨rfl, _, ⟨_, _, rfl, rfl⟩, by rw [ht]; exact hP, hD, hS.F ht⟩) hS.2.2 dX1_init_40 hlocks
