set_option maxRecDepth 20000 in
theorem iX5_init_5 : ∀ w ∈ wsX50, w ∈ wsX5_init := by decide +kernel
set_option maxHeartbeats 4000000 in
set_option maxRecDepth 100000 in
theorem c_X5_init (l : Launch) (D : va_G) (cI cC cH cL : ClassId) (sz : Nat) (a0 : Nat) : Met l yX5_init wsX5_init ({ frames := 1, cells := 5, slots := 612, locals := 20 }) (kcp [.ref a0] D ([(a0, .inr (5, [.null, .int 0, .null, .int 0, .null, .int 0, .null, .int 0, .int 0, .int 0, .null, .long 0]))]) (kT cI cC cH cL) sz) (kcq D (va_A ([(a0, .inr (5, [.null, .int 0, .null, .int 0, .null, .int 0, .null, .int 0, .int 0, .int 0, .null, .long 0]))]) sz) (fun w1 => ∃ a : Nat → Nat, a 0 = a0 ∧ w1 = MW a cI z00 0 zz0 0 zz0 0 zz0 0 0 0 zz0 0)) 5 612 (va_A ([(a0, .inr (5, [.null, .int 0, .null, .int 0, .null, .int 0, .null, .int 0, .int 0, .int 0, .null, .long 0]))]) sz) := by
  refine Met.ofW (cc := cX5_init) (maxL := 1) (ret := none) (by decide) rfl ?_
  intro p e s m args below meth c s₁ B hml hv
  obtain ⟨rfl, hsz, hP, hK, hD0, hN⟩ := hv
  have hx := B.exec
  have hb := B.bytes
  have hrt := B.returns
  have hts := atoms_spec (ws := wsX5_init) B.pre
  have hown : s.vm.findClass RX5 = some m.cls := findClass_of_methodNamed B.named
  have hlocks := B.notSynchronized
  have hin : meth.name = "<init>" := (name_of_methodNamed B.named B.method).1
  subst hsz
  have hD := hD0.self (sz := s.heap.size)
  generalize hAe : va_A ([(a0, .inr (5, [.null, .int 0, .null, .int 0, .null, .int 0, .null, .int 0, .int 0, .int 0, .null, .long 0]))]) s.heap.size = A at hD ⊢
  have hA : ∀ q : Nat, s.heap.size ≤ q → A q := fun q h => by rw [← hAe]; exact Or.inr h
  have hS : va_S A s.heap s.heap [] := va_S.rf
  have hP : va_P D vwCl ([(a0, .inr (5, [.null, .int 0, .null, .int 0, .null, .int 0, .null, .int 0, .int 0, .int 0, .null, .long 0]))]) s.heap := hP
  have hl := lv_entry ([.ref a0]) (n := 1) (Nat.le_of_ble_eq_true rfl)
  rw [lg_entry_eq]
  generalize (lg_sl ([.ref a0]) ++ List.replicate (1 - (lg_sl ([.ref a0])).length) Slot.unset).toArray = ls at hl ⊢
  have hl : lv_has ls 1 [(0, .ref a0)] := hl
  refine lv_aload_n hx hb dX5_init_0 rfl (lv_at hl 0 rfl) ?_
  refine W.objInit hx hb hown (hts (.methodLink RX5 1 objectInit) (List.mem_of_getElem? (i := 1) rfl)) (hts (.instanceMethod objectInit) (List.mem_of_getElem? (i := 2) rfl)) (hts (.code objectInit ⟨#[0xb1]⟩ 1 none) (List.mem_of_getElem? (i := 3) rfl)) rfl (by rw [hml]; exact hl.1) rfl dX5_init_1 (Nat.le_of_ble_eq_true rfl) (Nat.le_of_ble_eq_true rfl) ?_
  refine W.eq (g2 := F0 m 4 ls []) rfl ?_
  refine lv_aload_n hx hb dX5_init_4 rfl (lv_at hl 0 rfl) ?_
  refine lv_bipush (v := nI 57) hx hb dX5_init_5 (by decide) ?_
  refine kx_newa (atype := .int) (ty := .int) (a0 := (57, .inl zz0)) hx hb (hts (.arrayClass .int) (List.mem_of_getElem? (i := 4) rfl)) rfl hK hP hD hS hA 0 rfl (fun h => h) rfl (nI_pos (by decide)) (nI_clamp (by decide)) (Nat.le_of_ble_eq_true rfl) (Nat.le_of_ble_eq_true rfl) (Nat.le_of_ble_eq_true rfl) dX5_init_7 (fun q7_1 H hP hD hS => ?_)
  have hP : va_P D vwCl ([(a0, .inr (5, [.null, .int 0, .null, .int 0, .null, .int 0, .null, .int 0, .int 0, .int 0, .null, .long 0]))] ++ ([(q7_1, .inl (cI, 57, .inl zz0))])) H := hP
  have hD : va_D A ([(a0, .inr (5, [.null, .int 0, .null, .int 0, .null, .int 0, .null, .int 0, .int 0, .int 0, .null, .long 0]))] ++ ([(q7_1, .inl (cI, 57, .inl zz0))])) := hD
  refine W.widen (k := 1) (n := 57) (Nat.le_of_ble_eq_true rfl) (Nat.le_of_ble_eq_true rfl) ?_
  refine va_putF (D := D) (ci := 5) (v := .ref q7_1) (ty := (.array .int)) (C := RX5) (T := TX5) (N := 12) hx hb hts iX5_init_5 tyX5 tyX5_ok nmX5 hown hK hP hD hS 0 rfl rfl 0 (by decide) (hts (.fieldLink RX5 7 "HallSightsModel" "z" "[I") (List.mem_of_getElem? (i := 5) rfl)) (fun _ h9 => h9) rfl hin rfl (by decide +kernel) rfl rfl (Nat.le_of_ble_eq_true rfl) dX5_init_9 (fun H locs hP hD hS => ?_)
  have hP : va_P D vwCl ([(a0, .inr (5, [.ref q7_1, .int 0, .null, .int 0, .null, .int 0, .null, .int 0, .int 0, .int 0, .null, .long 0]))] ++ ([(q7_1, .inl (cI, 57, .inl zz0))])) H := hP
  have hD : va_D A ([(a0, .inr (5, [.ref q7_1, .int 0, .null, .int 0, .null, .int 0, .null, .int 0, .int 0, .int 0, .null, .long 0]))] ++ ([(q7_1, .inl (cI, 57, .inl zz0))])) := hD
  refine lv_aload_n hx hb dX5_init_12 rfl (lv_at hl 0 rfl) ?_
  refine lv_sipush (v := nI 342) hx hb dX5_init_13 (by decide) ?_
  refine kx_newa (atype := .int) (ty := .int) (a0 := (342, .inl zz0)) hx hb (hts (.arrayClass .int) (List.mem_of_getElem? (i := 4) rfl)) rfl hK hP hD hS hA 0 rfl (fun h => h) rfl (nI_pos (by decide)) (nI_clamp (by decide)) (Nat.le_of_ble_eq_true rfl) (Nat.le_of_ble_eq_true rfl) (Nat.le_of_ble_eq_true rfl) dX5_init_16 (fun q16_2 H hP hD hS => ?_)
  have hP : va_P D vwCl ([(a0, .inr (5, [.ref q7_1, .int 0, .null, .int 0, .null, .int 0, .null, .int 0, .int 0, .int 0, .null, .long 0]))] ++ ([(q7_1, .inl (cI, 57, .inl zz0))] ++ ([(q16_2, .inl (cI, 342, .inl zz0))]))) H := hP
  have hD : va_D A ([(a0, .inr (5, [.ref q7_1, .int 0, .null, .int 0, .null, .int 0, .null, .int 0, .int 0, .int 0, .null, .long 0]))] ++ ([(q7_1, .inl (cI, 57, .inl zz0))] ++ ([(q16_2, .inl (cI, 342, .inl zz0))]))) := hD
  refine W.widen (k := 2) (n := 399) (Nat.le_of_ble_eq_true rfl) (Nat.le_of_ble_eq_true rfl) ?_
  refine va_putF (D := D) (ci := 5) (v := .ref q16_2) (ty := (.array .int)) (C := RX5) (T := TX5) (N := 12) hx hb hts iX5_init_5 tyX5 tyX5_ok nmX5 hown hK hP hD hS 0 rfl rfl 2 (by decide) (hts (.fieldLink RX5 13 "HallSightsModel" "history" "[I") (List.mem_of_getElem? (i := 6) rfl)) (fun _ h9 => h9) rfl hin rfl (by decide +kernel) rfl rfl (Nat.le_of_ble_eq_true rfl) dX5_init_18 (fun H locs hP hD hS => ?_)
  have hP : va_P D vwCl ([(a0, .inr (5, [.ref q7_1, .int 0, .ref q16_2, .int 0, .null, .int 0, .null, .int 0, .int 0, .int 0, .null, .long 0]))] ++ ([(q7_1, .inl (cI, 57, .inl zz0))] ++ ([(q16_2, .inl (cI, 342, .inl zz0))]))) H := hP
  have hD : va_D A ([(a0, .inr (5, [.ref q7_1, .int 0, .ref q16_2, .int 0, .null, .int 0, .null, .int 0, .int 0, .int 0, .null, .long 0]))] ++ ([(q7_1, .inl (cI, 57, .inl zz0))] ++ ([(q16_2, .inl (cI, 342, .inl zz0))]))) := hD
  refine lv_aload_n hx hb dX5_init_21 rfl (lv_at hl 0 rfl) ?_
  refine lv_bipush (v := nI 60) hx hb dX5_init_22 (by decide) ?_
  refine kx_newa (atype := .int) (ty := .int) (a0 := (60, .inl zz0)) hx hb (hts (.arrayClass .int) (List.mem_of_getElem? (i := 4) rfl)) rfl hK hP hD hS hA 0 rfl (fun h => h) rfl (nI_pos (by decide)) (nI_clamp (by decide)) (Nat.le_of_ble_eq_true rfl) (Nat.le_of_ble_eq_true rfl) (Nat.le_of_ble_eq_true rfl) dX5_init_24 (fun q24_3 H hP hD hS => ?_)
  have hP : va_P D vwCl ([(a0, .inr (5, [.ref q7_1, .int 0, .ref q16_2, .int 0, .null, .int 0, .null, .int 0, .int 0, .int 0, .null, .long 0]))] ++ ([(q7_1, .inl (cI, 57, .inl zz0))] ++ ([(q16_2, .inl (cI, 342, .inl zz0))] ++ ([(q24_3, .inl (cI, 60, .inl zz0))])))) H := hP
  have hD : va_D A ([(a0, .inr (5, [.ref q7_1, .int 0, .ref q16_2, .int 0, .null, .int 0, .null, .int 0, .int 0, .int 0, .null, .long 0]))] ++ ([(q7_1, .inl (cI, 57, .inl zz0))] ++ ([(q16_2, .inl (cI, 342, .inl zz0))] ++ ([(q24_3, .inl (cI, 60, .inl zz0))])))) := hD
  refine W.widen (k := 3) (n := 459) (Nat.le_of_ble_eq_true rfl) (Nat.le_of_ble_eq_true rfl) ?_
  refine va_putF (D := D) (ci := 5) (v := .ref q24_3) (ty := (.array .int)) (C := RX5) (T := TX5) (N := 12) hx hb hts iX5_init_5 tyX5 tyX5_ok nmX5 hown hK hP hD hS 0 rfl rfl 4 (by decide) (hts (.fieldLink RX5 16 "HallSightsModel" "text" "[I") (List.mem_of_getElem? (i := 7) rfl)) (fun _ h9 => h9) rfl hin rfl (by decide +kernel) rfl rfl (Nat.le_of_ble_eq_true rfl) dX5_init_26 (fun H locs hP hD hS => ?_)
  have hP : va_P D vwCl ([(a0, .inr (5, [.ref q7_1, .int 0, .ref q16_2, .int 0, .ref q24_3, .int 0, .null, .int 0, .int 0, .int 0, .null, .long 0]))] ++ ([(q7_1, .inl (cI, 57, .inl zz0))] ++ ([(q16_2, .inl (cI, 342, .inl zz0))] ++ ([(q24_3, .inl (cI, 60, .inl zz0))])))) H := hP
  have hD : va_D A ([(a0, .inr (5, [.ref q7_1, .int 0, .ref q16_2, .int 0, .ref q24_3, .int 0, .null, .int 0, .int 0, .int 0, .null, .long 0]))] ++ ([(q7_1, .inl (cI, 57, .inl zz0))] ++ ([(q16_2, .inl (cI, 342, .inl zz0))] ++ ([(q24_3, .inl (cI, 60, .inl zz0))])))) := hD
  refine lv_aload_n hx hb dX5_init_29 rfl (lv_at hl 0 rfl) ?_
  refine lv_bipush (v := nI 33) hx hb dX5_init_30 (by decide) ?_
  refine kx_newa (atype := .int) (ty := .int) (a0 := (33, .inl zz0)) hx hb (hts (.arrayClass .int) (List.mem_of_getElem? (i := 4) rfl)) rfl hK hP hD hS hA 0 rfl (fun h => h) rfl (nI_pos (by decide)) (nI_clamp (by decide)) (Nat.le_of_ble_eq_true rfl) (Nat.le_of_ble_eq_true rfl) (Nat.le_of_ble_eq_true rfl) dX5_init_32 (fun q32_4 H hP hD hS => ?_)
  have hP : va_P D vwCl ([(a0, .inr (5, [.ref q7_1, .int 0, .ref q16_2, .int 0, .ref q24_3, .int 0, .null, .int 0, .int 0, .int 0, .null, .long 0]))] ++ ([(q7_1, .inl (cI, 57, .inl zz0))] ++ ([(q16_2, .inl (cI, 342, .inl zz0))] ++ ([(q24_3, .inl (cI, 60, .inl zz0))] ++ ([(q32_4, .inl (cI, 33, .inl zz0))]))))) H := hP
  have hD : va_D A ([(a0, .inr (5, [.ref q7_1, .int 0, .ref q16_2, .int 0, .ref q24_3, .int 0, .null, .int 0, .int 0, .int 0, .null, .long 0]))] ++ ([(q7_1, .inl (cI, 57, .inl zz0))] ++ ([(q16_2, .inl (cI, 342, .inl zz0))] ++ ([(q24_3, .inl (cI, 60, .inl zz0))] ++ ([(q32_4, .inl (cI, 33, .inl zz0))]))))) := hD
  refine W.widen (k := 4) (n := 492) (Nat.le_of_ble_eq_true rfl) (Nat.le_of_ble_eq_true rfl) ?_
  refine va_putF (D := D) (ci := 5) (v := .ref q32_4) (ty := (.array .int)) (C := RX5) (T := TX5) (N := 12) hx hb hts iX5_init_5 tyX5 tyX5_ok nmX5 hown hK hP hD hS 0 rfl rfl 6 (by decide) (hts (.fieldLink RX5 19 "HallSightsModel" "parts" "[I") (List.mem_of_getElem? (i := 8) rfl)) (fun _ h9 => h9) rfl hin rfl (by decide +kernel) rfl rfl (Nat.le_of_ble_eq_true rfl) dX5_init_34 (fun H locs hP hD hS => ?_)
  have hP : va_P D vwCl ([(a0, .inr (5, [.ref q7_1, .int 0, .ref q16_2, .int 0, .ref q24_3, .int 0, .ref q32_4, .int 0, .int 0, .int 0, .null, .long 0]))] ++ ([(q7_1, .inl (cI, 57, .inl zz0))] ++ ([(q16_2, .inl (cI, 342, .inl zz0))] ++ ([(q24_3, .inl (cI, 60, .inl zz0))] ++ ([(q32_4, .inl (cI, 33, .inl zz0))]))))) H := hP
  have hD : va_D A ([(a0, .inr (5, [.ref q7_1, .int 0, .ref q16_2, .int 0, .ref q24_3, .int 0, .ref q32_4, .int 0, .int 0, .int 0, .null, .long 0]))] ++ ([(q7_1, .inl (cI, 57, .inl zz0))] ++ ([(q16_2, .inl (cI, 342, .inl zz0))] ++ ([(q24_3, .inl (cI, 60, .inl zz0))] ++ ([(q32_4, .inl (cI, 33, .inl zz0))]))))) := hD
  refine lv_aload_n hx hb dX5_init_37 rfl (lv_at hl 0 rfl) ?_
  refine lv_bipush (v := nI 120) hx hb dX5_init_38 (by decide) ?_
  refine kx_newa (atype := .int) (ty := .int) (a0 := (120, .inl zz0)) hx hb (hts (.arrayClass .int) (List.mem_of_getElem? (i := 4) rfl)) rfl hK hP hD hS hA 0 rfl (fun h => h) rfl (nI_pos (by decide)) (nI_clamp (by decide)) (Nat.le_of_ble_eq_true rfl) (Nat.le_of_ble_eq_true rfl) (Nat.le_of_ble_eq_true rfl) dX5_init_40 (fun q40_5 H hP hD hS => ?_)
  have hP : va_P D vwCl ([(a0, .inr (5, [.ref q7_1, .int 0, .ref q16_2, .int 0, .ref q24_3, .int 0, .ref q32_4, .int 0, .int 0, .int 0, .null, .long 0]))] ++ ([(q7_1, .inl (cI, 57, .inl zz0))] ++ ([(q16_2, .inl (cI, 342, .inl zz0))] ++ ([(q24_3, .inl (cI, 60, .inl zz0))] ++ ([(q32_4, .inl (cI, 33, .inl zz0))] ++ ([(q40_5, .inl (cI, 120, .inl zz0))])))))) H := hP
  have hD : va_D A ([(a0, .inr (5, [.ref q7_1, .int 0, .ref q16_2, .int 0, .ref q24_3, .int 0, .ref q32_4, .int 0, .int 0, .int 0, .null, .long 0]))] ++ ([(q7_1, .inl (cI, 57, .inl zz0))] ++ ([(q16_2, .inl (cI, 342, .inl zz0))] ++ ([(q24_3, .inl (cI, 60, .inl zz0))] ++ ([(q32_4, .inl (cI, 33, .inl zz0))] ++ ([(q40_5, .inl (cI, 120, .inl zz0))])))))) := hD
  refine W.widen (k := 5) (n := 612) (Nat.le_of_ble_eq_true rfl) (Nat.le_of_ble_eq_true rfl) ?_
  refine va_putF (D := D) (ci := 5) (v := .ref q40_5) (ty := (.array .int)) (C := RX5) (T := TX5) (N := 12) hx hb hts iX5_init_5 tyX5 tyX5_ok nmX5 hown hK hP hD hS 0 rfl rfl 10 (by decide) (hts (.fieldLink RX5 22 "HallSightsModel" "ways" "[I") (List.mem_of_getElem? (i := 9) rfl)) (fun _ h9 => h9) rfl hin rfl (by decide +kernel) rfl rfl (Nat.le_of_ble_eq_true rfl) dX5_init_42 (fun H locs hP hD hS => ?_)
  have hP : va_P D vwCl ([(a0, .inr (5, [.ref q7_1, .int 0, .ref q16_2, .int 0, .ref q24_3, .int 0, .ref q32_4, .int 0, .int 0, .int 0, .ref q40_5, .long 0]))] ++ ([(q7_1, .inl (cI, 57, .inl zz0))] ++ ([(q16_2, .inl (cI, 342, .inl zz0))] ++ ([(q24_3, .inl (cI, 60, .inl zz0))] ++ ([(q32_4, .inl (cI, 33, .inl zz0))] ++ ([(q40_5, .inl (cI, 120, .inl zz0))])))))) H := hP
  have hD : va_D A ([(a0, .inr (5, [.ref q7_1, .int 0, .ref q16_2, .int 0, .ref q24_3, .int 0, .ref q32_4, .int 0, .int 0, .int 0, .ref q40_5, .long 0]))] ++ ([(q7_1, .inl (cI, 57, .inl zz0))] ++ ([(q16_2, .inl (cI, 342, .inl zz0))] ++ ([(q24_3, .inl (cI, 60, .inl zz0))] ++ ([(q32_4, .inl (cI, 33, .inl zz0))] ++ ([(q40_5, .inl (cI, 120, .inl zz0))])))))) := hD
  refine lv_aload_n hx hb dX5_init_45 rfl (lv_at hl 0 rfl) ?_
  refine va_get (D := D) (ci := 5) (v := .ref q7_1) (C := RX5) (T := TX5) (N := 12) hx hb hts iX5_init_5 hown hK hP 0 rfl rfl 0 (by decide) (hts (.fieldLink RX5 7 "HallSightsModel" "z" "[I") (List.mem_of_getElem? (i := 5) rfl)) (fun _ h9 => h9) rfl dX5_init_46 ?_
  refine lv_iconst (v := nI 0) hx hb dX5_init_49 (by decide) ?_
  refine lv_bipush (v := nI 100) hx hb dX5_init_50 (by decide) ?_
  refine kx_iast hx hb hK hP hD hS 1 0 rfl rfl (by omega) (by decide) dX5_init_52 (fun H locs hP hD hS => ?_)
  have hP : va_P D vwCl ([(a0, .inr (5, [.ref q7_1, .int 0, .ref q16_2, .int 0, .ref q24_3, .int 0, .ref q32_4, .int 0, .int 0, .int 0, .ref q40_5, .long 0]))] ++ ([(q7_1, .inl (cI, 57, .inl (upd zz0 0 (nI 100))))] ++ ([(q16_2, .inl (cI, 342, .inl zz0))] ++ ([(q24_3, .inl (cI, 60, .inl zz0))] ++ ([(q32_4, .inl (cI, 33, .inl zz0))] ++ ([(q40_5, .inl (cI, 120, .inl zz0))])))))) H := hP
  have hD : va_D A ([(a0, .inr (5, [.ref q7_1, .int 0, .ref q16_2, .int 0, .ref q24_3, .int 0, .ref q32_4, .int 0, .int 0, .int 0, .ref q40_5, .long 0]))] ++ ([(q7_1, .inl (cI, 57, .inl (upd zz0 0 (nI 100))))] ++ ([(q16_2, .inl (cI, 342, .inl zz0))] ++ ([(q24_3, .inl (cI, 60, .inl zz0))] ++ ([(q32_4, .inl (cI, 33, .inl zz0))] ++ ([(q40_5, .inl (cI, 120, .inl zz0))])))))) := hD
  refine lv_aload_n hx hb dX5_init_53 rfl (lv_at hl 0 rfl) ?_
  refine va_get (D := D) (ci := 5) (v := .ref q7_1) (C := RX5) (T := TX5) (N := 12) hx hb hts iX5_init_5 hown hK hP 0 rfl rfl 0 (by decide) (hts (.fieldLink RX5 7 "HallSightsModel" "z" "[I") (List.mem_of_getElem? (i := 5) rfl)) (fun _ h9 => h9) rfl dX5_init_54 ?_
  refine lv_iconst (v := nI 1) hx hb dX5_init_57 (by decide) ?_
  refine lv_bipush (v := nI 120) hx hb dX5_init_58 (by decide) ?_
  refine kx_iast hx hb hK hP hD hS 1 0 rfl rfl (by omega) (by decide) dX5_init_60 (fun H locs hP hD hS => ?_)
  have hP : va_P D vwCl ([(a0, .inr (5, [.ref q7_1, .int 0, .ref q16_2, .int 0, .ref q24_3, .int 0, .ref q32_4, .int 0, .int 0, .int 0, .ref q40_5, .long 0]))] ++ ([(q7_1, .inl (cI, 57, .inl (upd (upd zz0 0 (nI 100)) 1 (nI 120))))] ++ ([(q16_2, .inl (cI, 342, .inl zz0))] ++ ([(q24_3, .inl (cI, 60, .inl zz0))] ++ ([(q32_4, .inl (cI, 33, .inl zz0))] ++ ([(q40_5, .inl (cI, 120, .inl zz0))])))))) H := hP
  have hD : va_D A ([(a0, .inr (5, [.ref q7_1, .int 0, .ref q16_2, .int 0, .ref q24_3, .int 0, .ref q32_4, .int 0, .int 0, .int 0, .ref q40_5, .long 0]))] ++ ([(q7_1, .inl (cI, 57, .inl (upd (upd zz0 0 (nI 100)) 1 (nI 120))))] ++ ([(q16_2, .inl (cI, 342, .inl zz0))] ++ ([(q24_3, .inl (cI, 60, .inl zz0))] ++ ([(q32_4, .inl (cI, 33, .inl zz0))] ++ ([(q40_5, .inl (cI, 120, .inl zz0))])))))) := hD
  refine lv_aload_n hx hb dX5_init_61 rfl (lv_at hl 0 rfl) ?_
  refine va_get (D := D) (ci := 5) (v := .ref q7_1) (C := RX5) (T := TX5) (N := 12) hx hb hts iX5_init_5 hown hK hP 0 rfl rfl 0 (by decide) (hts (.fieldLink RX5 7 "HallSightsModel" "z" "[I") (List.mem_of_getElem? (i := 5) rfl)) (fun _ h9 => h9) rfl dX5_init_62 ?_
  refine lv_iconst (v := nI 2) hx hb dX5_init_65 (by decide) ?_
  refine lv_bipush (v := nI 12) hx hb dX5_init_66 (by decide) ?_
  refine kx_iast hx hb hK hP hD hS 1 0 rfl rfl (by omega) (by decide) dX5_init_68 (fun H locs hP hD hS => ?_)
  have hP : va_P D vwCl ([(a0, .inr (5, [.ref q7_1, .int 0, .ref q16_2, .int 0, .ref q24_3, .int 0, .ref q32_4, .int 0, .int 0, .int 0, .ref q40_5, .long 0]))] ++ ([(q7_1, .inl (cI, 57, .inl (upd (upd (upd zz0 0 (nI 100)) 1 (nI 120)) 2 (nI 12))))] ++ ([(q16_2, .inl (cI, 342, .inl zz0))] ++ ([(q24_3, .inl (cI, 60, .inl zz0))] ++ ([(q32_4, .inl (cI, 33, .inl zz0))] ++ ([(q40_5, .inl (cI, 120, .inl zz0))])))))) H := hP
  have hD : va_D A ([(a0, .inr (5, [.ref q7_1, .int 0, .ref q16_2, .int 0, .ref q24_3, .int 0, .ref q32_4, .int 0, .int 0, .int 0, .ref q40_5, .long 0]))] ++ ([(q7_1, .inl (cI, 57, .inl (upd (upd (upd zz0 0 (nI 100)) 1 (nI 120)) 2 (nI 12))))] ++ ([(q16_2, .inl (cI, 342, .inl zz0))] ++ ([(q24_3, .inl (cI, 60, .inl zz0))] ++ ([(q32_4, .inl (cI, 33, .inl zz0))] ++ ([(q40_5, .inl (cI, 120, .inl zz0))])))))) := hD
  have hP : va_P D vwCl (MW (fun k => ([a0, q7_1, q16_2, q24_3, q32_4, q40_5] : List Nat).getD k 0) cI (upd (upd (upd zz0 0 (nI 100)) 1 (nI 120)) 2 (nI 12)) 0 zz0 0 zz0 0 zz0 0 0 0 zz0 0) H := hP
  have hP : va_P D vwCl (MW (fun k => ([a0, q7_1, q16_2, q24_3, q32_4, q40_5] : List Nat).getD k 0) cI z00 0 zz0 0 zz0 0 zz0 0 0 0 zz0 0) H := arr_ext hP 1 rfl (fun j hj => z00_u j)
  have hD : va_D A (MW (fun k => ([a0, q7_1, q16_2, q24_3, q32_4, q40_5] : List Nat).getD k 0) cI z00 0 zz0 0 zz0 0 zz0 0 0 0 zz0 0) := vaD_x hD rfl
  exact W.vret hx hb hrt (fun t ht _ => ⟨rfl, _, ⟨_, rfl, rfl⟩, by rw [ht]; exact hP, hD, hS.F ht⟩) hS.2.2 dX5_init_69 hlocks
