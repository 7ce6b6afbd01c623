theorem k_X0_copyFrom : yX0_copyFrom.cls = RX0 ∧ yX0_copyFrom.cls ≠ "java/lang/invoke/MethodHandle" ∧ yX0_copyFrom.cls ≠ "java/lang/invoke/VarHandle" ∧ (parseMethodDescriptor yX0_copyFrom.desc).map (fun d => d.parameters.length) = some 1 := by decide +kernel
theorem k_X0_copyFromS : yX0_copyFrom.cls ≠ "java/lang/invoke/MethodHandle" ∧ yX0_copyFrom.cls ≠ "java/lang/invoke/VarHandle" ∧ (parseMethodDescriptor yX0_copyFrom.desc).map (fun d => d.parameters.length) = some 1 := k_X0_copyFrom.2
theorem k_X1_dropOldest : yX1_dropOldest.cls = RX1 ∧ yX1_dropOldest.cls ≠ "java/lang/invoke/MethodHandle" ∧ yX1_dropOldest.cls ≠ "java/lang/invoke/VarHandle" ∧ (parseMethodDescriptor yX1_dropOldest.desc).map (fun d => d.parameters.length) = some 0 := by decide +kernel
theorem k_X1_dropOldestS : yX1_dropOldest.cls ≠ "java/lang/invoke/MethodHandle" ∧ yX1_dropOldest.cls ≠ "java/lang/invoke/VarHandle" ∧ (parseMethodDescriptor yX1_dropOldest.desc).map (fun d => d.parameters.length) = some 0 := k_X1_dropOldest.2
set_option maxRecDepth 20000 in
theorem iX0_copyFrom_0 : ∀ w ∈ wsX00, w ∈ wsX0_copyFrom := by decide +kernel
set_option maxHeartbeats 4000000 in
set_option maxRecDepth 100000 in
theorem c_X0_copyFrom (l : Launch) (D : va_G) (cI cC cH cL : ClassId) (b : Nat → Nat) (ro co : Int32) (di hg se ta cd cs ch sg : ZZ) (b2 : Nat → Nat) (z2 : ZZ)   : Met l yX0_copyFrom wsX0_copyFrom ({ frames := 1, cells := 0, slots := 0, locals := 60 }) (kw [.ref (b 0), .ref (b2 0)] D (HR b cI ro di hg se ta co cd cs ch sg ++ HW b2 cI z2) (kT cI cC cH cL)) (kq D (HR b cI ro di hg se ta co cd cs ch sg ++ HW b2 cI z2) (HW b cI z2 ++ HW b2 cI z2) (.returned none)) 0 0 (kA (HR b cI ro di hg se ta co cd cs ch sg ++ HW b2 cI z2)) := by
  refine Met.ofW (cc := cX0_copyFrom) (maxL := 2) (ret := none) (by decide) rfl ?_
  intro p e s m args below meth c s₁ B hml hv
  obtain ⟨rfl, hP, hK, hD0⟩ := hv
  have hx := B.exec
  have hb := B.bytes
  have hrt := B.returns
  have hts := atoms_spec (ws := wsX0_copyFrom) B.pre
  have hown : s.vm.findClass RX0 = some m.cls := findClass_of_methodNamed B.named
  have hlocks := B.notSynchronized
  have hl := lv_entry ([.ref (b 0), .ref (b2 0)]) (n := 2) (Nat.le_of_ble_eq_true rfl)
  rw [lg_entry_eq]
  generalize (lg_sl ([.ref (b 0), .ref (b2 0)]) ++ List.replicate (2 - (lg_sl ([.ref (b 0), .ref (b2 0)])).length) Slot.unset).toArray = ls at hl ⊢
  have hl : lv_has ls 2 [(0, .ref (b 0)), (1, .ref (b2 0))] := hl
  have hD := kA_self hD0
  obtain ⟨w0, hw0⟩ : ∃ w : va_W, w = HR b cI ro di hg se ta co cd cs ch sg ++ HW b2 cI z2 := ⟨_, rfl⟩
  have hD : va_D (kA w0) (HR b cI ro di hg se ta co cd cs ch sg ++ HW b2 cI z2) := by rw [hw0]; exact hD
  have hS : va_S (kA w0) s.heap s.heap [] := va_S.rf
  rw [show kA (HR b cI ro di hg se ta co cd cs ch sg ++ HW b2 cI z2) = kA w0 from by rw [hw0], show kq D (HR b cI ro di hg se ta co cd cs ch sg ++ HW b2 cI z2) = kq D w0 from by rw [hw0]]
  have hP : va_P D vwCl (HR b cI ro di hg se ta co cd cs ch sg ++ HW b2 cI z2) s.heap := hP
  refine lv_aload_n hx hb dX0_copyFrom_0 rfl (lv_at hl 0 rfl) ?_
  refine lv_aload_n hx hb dX0_copyFrom_1 rfl (lv_at hl 1 rfl) ?_
  refine va_get (D := D) (ci := 0) (v := .int (z2 3)) (C := RX0) (T := TX0) (N := 10) hx hb hts iX0_copyFrom_0 hown hK hP 9 rfl rfl 0 (by decide) (hts (.fieldLink RX0 36 "HallSights$Hall" "rows" "I") (List.mem_of_getElem? (i := 1) rfl)) (fun _ h9 => h9) rfl dX0_copyFrom_2 ?_
  refine va_put (D := D) (ci := 0) (v := .int (z2 3)) (ty := .int) (C := RX0) (T := TX0) (N := 10) hx hb hts iX0_copyFrom_0 tyX0 tyX0_ok nmX0 hown hK hP hD hS 0 rfl rfl 0 (by decide) (hts (.fieldLink RX0 36 "HallSights$Hall" "rows" "I") (List.mem_of_getElem? (i := 1) rfl)) (fun _ h9 => h9) rfl (by decide +kernel) rfl rfl (Nat.le_of_ble_eq_true rfl) dX0_copyFrom_5 (fun H locs hP hD hS => ?_)
  have hP : va_P D vwCl (HR b cI (z2 3) di hg se ta co cd cs ch sg ++ HW b2 cI z2) H := hP
  have hD : va_D (kA w0) (HR b cI (z2 3) di hg se ta co cd cs ch sg ++ HW b2 cI z2) := hD
  refine lv_aload_n hx hb dX0_copyFrom_8 rfl (lv_at hl 1 rfl) ?_
  refine va_get (D := D) (ci := 0) (v := .ref (b2 1)) (C := RX0) (T := TX0) (N := 10) hx hb hts iX0_copyFrom_0 hown hK hP 9 rfl rfl 1 (by decide) (hts (.fieldLink RX0 9 "HallSights$Hall" "distances" "[I") (List.mem_of_getElem? (i := 2) rfl)) (fun _ h9 => h9) rfl dX0_copyFrom_9 ?_
  refine lv_iconst (v := nI 0) hx hb dX0_copyFrom_12 (by decide) ?_
  refine lv_aload_n hx hb dX0_copyFrom_13 rfl (lv_at hl 0 rfl) ?_
  refine va_get (D := D) (ci := 0) (v := .ref (b 1)) (C := RX0) (T := TX0) (N := 10) hx hb hts iX0_copyFrom_0 hown hK hP 0 rfl rfl 1 (by decide) (hts (.fieldLink RX0 9 "HallSights$Hall" "distances" "[I") (List.mem_of_getElem? (i := 2) rfl)) (fun _ h9 => h9) rfl dX0_copyFrom_14 ?_
  refine lv_iconst (v := nI 0) hx hb dX0_copyFrom_17 (by decide) ?_
  refine lv_bipush (v := nI 10) hx hb dX0_copyFrom_18 (by decide) ?_
  refine kx_copyi hx hb (hml.trans hl.1.symm) hown (hts (.methodLink RX0 40 arraycopyName) (List.mem_of_getElem? (i := 3) rfl)) (hts (.native arraycopyName) (List.mem_of_getElem? (i := 4) rfl)) (hts (.static arraycopyName) (List.mem_of_getElem? (i := 5) rfl)) (hts (.initialized "java/lang/System") (List.mem_of_getElem? (i := 6) rfl)) hK hP hD hS 10 1 0 rfl rfl rfl 10 (by decide) (by decide) (by decide) (Nat.le_of_ble_eq_true rfl) (Nat.le_of_ble_eq_true rfl) dX0_copyFrom_20 (fun H locs hP hD hS => ?_)
  have hP : va_P D vwCl (HR b cI (z2 3) (va_cpy (fun j => z2 (5 + 4 * j)) di 0 0 10) hg se ta co cd cs ch sg ++ HW b2 cI z2) H := hP
  have hD : va_D (kA w0) (HR b cI (z2 3) (va_cpy (fun j => z2 (5 + 4 * j)) di 0 0 10) hg se ta co cd cs ch sg ++ HW b2 cI z2) := hD
  refine lv_aload_n hx hb dX0_copyFrom_23 rfl (lv_at hl 1 rfl) ?_
  refine va_get (D := D) (ci := 0) (v := .ref (b2 2)) (C := RX0) (T := TX0) (N := 10) hx hb hts iX0_copyFrom_0 hown hK hP 9 rfl rfl 2 (by decide) (hts (.fieldLink RX0 15 "HallSights$Hall" "heights" "[I") (List.mem_of_getElem? (i := 7) rfl)) (fun _ h9 => h9) rfl dX0_copyFrom_24 ?_
  refine lv_iconst (v := nI 0) hx hb dX0_copyFrom_27 (by decide) ?_
  refine lv_aload_n hx hb dX0_copyFrom_28 rfl (lv_at hl 0 rfl) ?_
  refine va_get (D := D) (ci := 0) (v := .ref (b 2)) (C := RX0) (T := TX0) (N := 10) hx hb hts iX0_copyFrom_0 hown hK hP 0 rfl rfl 2 (by decide) (hts (.fieldLink RX0 15 "HallSights$Hall" "heights" "[I") (List.mem_of_getElem? (i := 7) rfl)) (fun _ h9 => h9) rfl dX0_copyFrom_29 ?_
  refine lv_iconst (v := nI 0) hx hb dX0_copyFrom_32 (by decide) ?_
  refine lv_bipush (v := nI 10) hx hb dX0_copyFrom_33 (by decide) ?_
  refine kx_copyi hx hb (hml.trans hl.1.symm) hown (hts (.methodLink RX0 40 arraycopyName) (List.mem_of_getElem? (i := 3) rfl)) (hts (.native arraycopyName) (List.mem_of_getElem? (i := 4) rfl)) (hts (.static arraycopyName) (List.mem_of_getElem? (i := 5) rfl)) (hts (.initialized "java/lang/System") (List.mem_of_getElem? (i := 6) rfl)) hK hP hD hS 11 2 0 rfl rfl rfl 10 (by decide) (by decide) (by decide) (Nat.le_of_ble_eq_true rfl) (Nat.le_of_ble_eq_true rfl) dX0_copyFrom_35 (fun H locs hP hD hS => ?_)
  have hP : va_P D vwCl (HR b cI (z2 3) (va_cpy (fun j => z2 (5 + 4 * j)) di 0 0 10) (va_cpy (fun j => z2 (5 + 4 * j + 1)) hg 0 0 10) se ta co cd cs ch sg ++ HW b2 cI z2) H := hP
  have hD : va_D (kA w0) (HR b cI (z2 3) (va_cpy (fun j => z2 (5 + 4 * j)) di 0 0 10) (va_cpy (fun j => z2 (5 + 4 * j + 1)) hg 0 0 10) se ta co cd cs ch sg ++ HW b2 cI z2) := hD
  refine lv_aload_n hx hb dX0_copyFrom_38 rfl (lv_at hl 1 rfl) ?_
  refine va_get (D := D) (ci := 0) (v := .ref (b2 3)) (C := RX0) (T := TX0) (N := 10) hx hb hts iX0_copyFrom_0 hown hK hP 9 rfl rfl 3 (by decide) (hts (.fieldLink RX0 18 "HallSights$Hall" "seats" "[I") (List.mem_of_getElem? (i := 8) rfl)) (fun _ h9 => h9) rfl dX0_copyFrom_39 ?_
  refine lv_iconst (v := nI 0) hx hb dX0_copyFrom_42 (by decide) ?_
  refine lv_aload_n hx hb dX0_copyFrom_43 rfl (lv_at hl 0 rfl) ?_
  refine va_get (D := D) (ci := 0) (v := .ref (b 3)) (C := RX0) (T := TX0) (N := 10) hx hb hts iX0_copyFrom_0 hown hK hP 0 rfl rfl 3 (by decide) (hts (.fieldLink RX0 18 "HallSights$Hall" "seats" "[I") (List.mem_of_getElem? (i := 8) rfl)) (fun _ h9 => h9) rfl dX0_copyFrom_44 ?_
  refine lv_iconst (v := nI 0) hx hb dX0_copyFrom_47 (by decide) ?_
  refine lv_bipush (v := nI 10) hx hb dX0_copyFrom_48 (by decide) ?_
  refine kx_copyi hx hb (hml.trans hl.1.symm) hown (hts (.methodLink RX0 40 arraycopyName) (List.mem_of_getElem? (i := 3) rfl)) (hts (.native arraycopyName) (List.mem_of_getElem? (i := 4) rfl)) (hts (.static arraycopyName) (List.mem_of_getElem? (i := 5) rfl)) (hts (.initialized "java/lang/System") (List.mem_of_getElem? (i := 6) rfl)) hK hP hD hS 12 3 0 rfl rfl rfl 10 (by decide) (by decide) (by decide) (Nat.le_of_ble_eq_true rfl) (Nat.le_of_ble_eq_true rfl) dX0_copyFrom_50 (fun H locs hP hD hS => ?_)
  have hP : va_P D vwCl (HR b cI (z2 3) (va_cpy (fun j => z2 (5 + 4 * j)) di 0 0 10) (va_cpy (fun j => z2 (5 + 4 * j + 1)) hg 0 0 10) (va_cpy (fun j => z2 (5 + 4 * j + 2)) se 0 0 10) ta co cd cs ch sg ++ HW b2 cI z2) H := hP
  have hD : va_D (kA w0) (HR b cI (z2 3) (va_cpy (fun j => z2 (5 + 4 * j)) di 0 0 10) (va_cpy (fun j => z2 (5 + 4 * j + 1)) hg 0 0 10) (va_cpy (fun j => z2 (5 + 4 * j + 2)) se 0 0 10) ta co cd cs ch sg ++ HW b2 cI z2) := hD
  refine lv_aload_n hx hb dX0_copyFrom_53 rfl (lv_at hl 1 rfl) ?_
  refine va_get (D := D) (ci := 0) (v := .ref (b2 4)) (C := RX0) (T := TX0) (N := 10) hx hb hts iX0_copyFrom_0 hown hK hP 9 rfl rfl 4 (by decide) (hts (.fieldLink RX0 21 "HallSights$Hall" "taken" "[I") (List.mem_of_getElem? (i := 9) rfl)) (fun _ h9 => h9) rfl dX0_copyFrom_54 ?_
  refine lv_iconst (v := nI 0) hx hb dX0_copyFrom_57 (by decide) ?_
  refine lv_aload_n hx hb dX0_copyFrom_58 rfl (lv_at hl 0 rfl) ?_
  refine va_get (D := D) (ci := 0) (v := .ref (b 4)) (C := RX0) (T := TX0) (N := 10) hx hb hts iX0_copyFrom_0 hown hK hP 0 rfl rfl 4 (by decide) (hts (.fieldLink RX0 21 "HallSights$Hall" "taken" "[I") (List.mem_of_getElem? (i := 9) rfl)) (fun _ h9 => h9) rfl dX0_copyFrom_59 ?_
  refine lv_iconst (v := nI 0) hx hb dX0_copyFrom_62 (by decide) ?_
  refine lv_bipush (v := nI 10) hx hb dX0_copyFrom_63 (by decide) ?_
  refine kx_copyi hx hb (hml.trans hl.1.symm) hown (hts (.methodLink RX0 40 arraycopyName) (List.mem_of_getElem? (i := 3) rfl)) (hts (.native arraycopyName) (List.mem_of_getElem? (i := 4) rfl)) (hts (.static arraycopyName) (List.mem_of_getElem? (i := 5) rfl)) (hts (.initialized "java/lang/System") (List.mem_of_getElem? (i := 6) rfl)) hK hP hD hS 13 4 0 rfl rfl rfl 10 (by decide) (by decide) (by decide) (Nat.le_of_ble_eq_true rfl) (Nat.le_of_ble_eq_true rfl) dX0_copyFrom_65 (fun H locs hP hD hS => ?_)
  have hP : va_P D vwCl (HR b cI (z2 3) (va_cpy (fun j => z2 (5 + 4 * j)) di 0 0 10) (va_cpy (fun j => z2 (5 + 4 * j + 1)) hg 0 0 10) (va_cpy (fun j => z2 (5 + 4 * j + 2)) se 0 0 10) (va_cpy (fun j => z2 (5 + 4 * j + 3)) ta 0 0 10) co cd cs ch sg ++ HW b2 cI z2) H := hP
  have hD : va_D (kA w0) (HR b cI (z2 3) (va_cpy (fun j => z2 (5 + 4 * j)) di 0 0 10) (va_cpy (fun j => z2 (5 + 4 * j + 1)) hg 0 0 10) (va_cpy (fun j => z2 (5 + 4 * j + 2)) se 0 0 10) (va_cpy (fun j => z2 (5 + 4 * j + 3)) ta 0 0 10) co cd cs ch sg ++ HW b2 cI z2) := hD
  refine lv_aload_n hx hb dX0_copyFrom_68 rfl (lv_at hl 0 rfl) ?_
  refine lv_aload_n hx hb dX0_copyFrom_69 rfl (lv_at hl 1 rfl) ?_
  refine va_get (D := D) (ci := 0) (v := .int (z2 4)) (C := RX0) (T := TX0) (N := 10) hx hb hts iX0_copyFrom_0 hown hK hP 9 rfl rfl 5 (by decide) (hts (.fieldLink RX0 46 "HallSights$Hall" "columns" "I") (List.mem_of_getElem? (i := 10) rfl)) (fun _ h9 => h9) rfl dX0_copyFrom_70 ?_
  refine va_put (D := D) (ci := 0) (v := .int (z2 4)) (ty := .int) (C := RX0) (T := TX0) (N := 10) hx hb hts iX0_copyFrom_0 tyX0 tyX0_ok nmX0 hown hK hP hD hS 0 rfl rfl 5 (by decide) (hts (.fieldLink RX0 46 "HallSights$Hall" "columns" "I") (List.mem_of_getElem? (i := 10) rfl)) (fun _ h9 => h9) rfl (by decide +kernel) rfl rfl (Nat.le_of_ble_eq_true rfl) dX0_copyFrom_73 (fun H locs hP hD hS => ?_)
  have hP : va_P D vwCl (HR b cI (z2 3) (va_cpy (fun j => z2 (5 + 4 * j)) di 0 0 10) (va_cpy (fun j => z2 (5 + 4 * j + 1)) hg 0 0 10) (va_cpy (fun j => z2 (5 + 4 * j + 2)) se 0 0 10) (va_cpy (fun j => z2 (5 + 4 * j + 3)) ta 0 0 10) (z2 4) cd cs ch sg ++ HW b2 cI z2) H := hP
  have hD : va_D (kA w0) (HR b cI (z2 3) (va_cpy (fun j => z2 (5 + 4 * j)) di 0 0 10) (va_cpy (fun j => z2 (5 + 4 * j + 1)) hg 0 0 10) (va_cpy (fun j => z2 (5 + 4 * j + 2)) se 0 0 10) (va_cpy (fun j => z2 (5 + 4 * j + 3)) ta 0 0 10) (z2 4) cd cs ch sg ++ HW b2 cI z2) := hD
  refine lv_aload_n hx hb dX0_copyFrom_76 rfl (lv_at hl 1 rfl) ?_
  refine va_get (D := D) (ci := 0) (v := .ref (b2 5)) (C := RX0) (T := TX0) (N := 10) hx hb hts iX0_copyFrom_0 hown hK hP 9 rfl rfl 6 (by decide) (hts (.fieldLink RX0 24 "HallSights$Hall" "columnDistances" "[I") (List.mem_of_getElem? (i := 11) rfl)) (fun _ h9 => h9) rfl dX0_copyFrom_77 ?_
  refine lv_iconst (v := nI 0) hx hb dX0_copyFrom_80 (by decide) ?_
  refine lv_aload_n hx hb dX0_copyFrom_81 rfl (lv_at hl 0 rfl) ?_
  refine va_get (D := D) (ci := 0) (v := .ref (b 5)) (C := RX0) (T := TX0) (N := 10) hx hb hts iX0_copyFrom_0 hown hK hP 0 rfl rfl 6 (by decide) (hts (.fieldLink RX0 24 "HallSights$Hall" "columnDistances" "[I") (List.mem_of_getElem? (i := 11) rfl)) (fun _ h9 => h9) rfl dX0_copyFrom_82 ?_
  refine lv_iconst (v := nI 0) hx hb dX0_copyFrom_85 (by decide) ?_
  refine lv_iconst (v := nI 4) hx hb dX0_copyFrom_86 (by decide) ?_
  refine kx_copyi hx hb (hml.trans hl.1.symm) hown (hts (.methodLink RX0 40 arraycopyName) (List.mem_of_getElem? (i := 3) rfl)) (hts (.native arraycopyName) (List.mem_of_getElem? (i := 4) rfl)) (hts (.static arraycopyName) (List.mem_of_getElem? (i := 5) rfl)) (hts (.initialized "java/lang/System") (List.mem_of_getElem? (i := 6) rfl)) hK hP hD hS 14 5 0 rfl rfl rfl 4 (by decide) (by decide) (by decide) (Nat.le_of_ble_eq_true rfl) (Nat.le_of_ble_eq_true rfl) dX0_copyFrom_87 (fun H locs hP hD hS => ?_)
  have hP : va_P D vwCl (HR b cI (z2 3) (va_cpy (fun j => z2 (5 + 4 * j)) di 0 0 10) (va_cpy (fun j => z2 (5 + 4 * j + 1)) hg 0 0 10) (va_cpy (fun j => z2 (5 + 4 * j + 2)) se 0 0 10) (va_cpy (fun j => z2 (5 + 4 * j + 3)) ta 0 0 10) (z2 4) (va_cpy (fun j => z2 (45 + 3 * j)) cd 0 0 4) cs ch sg ++ HW b2 cI z2) H := hP
  have hD : va_D (kA w0) (HR b cI (z2 3) (va_cpy (fun j => z2 (5 + 4 * j)) di 0 0 10) (va_cpy (fun j => z2 (5 + 4 * j + 1)) hg 0 0 10) (va_cpy (fun j => z2 (5 + 4 * j + 2)) se 0 0 10) (va_cpy (fun j => z2 (5 + 4 * j + 3)) ta 0 0 10) (z2 4) (va_cpy (fun j => z2 (45 + 3 * j)) cd 0 0 4) cs ch sg ++ HW b2 cI z2) := hD
  refine lv_aload_n hx hb dX0_copyFrom_90 rfl (lv_at hl 1 rfl) ?_
  refine va_get (D := D) (ci := 0) (v := .ref (b2 6)) (C := RX0) (T := TX0) (N := 10) hx hb hts iX0_copyFrom_0 hown hK hP 9 rfl rfl 7 (by decide) (hts (.fieldLink RX0 27 "HallSights$Hall" "columnSides" "[I") (List.mem_of_getElem? (i := 12) rfl)) (fun _ h9 => h9) rfl dX0_copyFrom_91 ?_
  refine lv_iconst (v := nI 0) hx hb dX0_copyFrom_94 (by decide) ?_
  refine lv_aload_n hx hb dX0_copyFrom_95 rfl (lv_at hl 0 rfl) ?_
  refine va_get (D := D) (ci := 0) (v := .ref (b 6)) (C := RX0) (T := TX0) (N := 10) hx hb hts iX0_copyFrom_0 hown hK hP 0 rfl rfl 7 (by decide) (hts (.fieldLink RX0 27 "HallSights$Hall" "columnSides" "[I") (List.mem_of_getElem? (i := 12) rfl)) (fun _ h9 => h9) rfl dX0_copyFrom_96 ?_
  refine lv_iconst (v := nI 0) hx hb dX0_copyFrom_99 (by decide) ?_
  refine lv_iconst (v := nI 4) hx hb dX0_copyFrom_100 (by decide) ?_
  refine kx_copyi hx hb (hml.trans hl.1.symm) hown (hts (.methodLink RX0 40 arraycopyName) (List.mem_of_getElem? (i := 3) rfl)) (hts (.native arraycopyName) (List.mem_of_getElem? (i := 4) rfl)) (hts (.static arraycopyName) (List.mem_of_getElem? (i := 5) rfl)) (hts (.initialized "java/lang/System") (List.mem_of_getElem? (i := 6) rfl)) hK hP hD hS 15 6 0 rfl rfl rfl 4 (by decide) (by decide) (by decide) (Nat.le_of_ble_eq_true rfl) (Nat.le_of_ble_eq_true rfl) dX0_copyFrom_101 (fun H locs hP hD hS => ?_)
  have hP : va_P D vwCl (HR b cI (z2 3) (va_cpy (fun j => z2 (5 + 4 * j)) di 0 0 10) (va_cpy (fun j => z2 (5 + 4 * j + 1)) hg 0 0 10) (va_cpy (fun j => z2 (5 + 4 * j + 2)) se 0 0 10) (va_cpy (fun j => z2 (5 + 4 * j + 3)) ta 0 0 10) (z2 4) (va_cpy (fun j => z2 (45 + 3 * j)) cd 0 0 4) (va_cpy (fun j => z2 (45 + 3 * j + 1)) cs 0 0 4) ch sg ++ HW b2 cI z2) H := hP
  have hD : va_D (kA w0) (HR b cI (z2 3) (va_cpy (fun j => z2 (5 + 4 * j)) di 0 0 10) (va_cpy (fun j => z2 (5 + 4 * j + 1)) hg 0 0 10) (va_cpy (fun j => z2 (5 + 4 * j + 2)) se 0 0 10) (va_cpy (fun j => z2 (5 + 4 * j + 3)) ta 0 0 10) (z2 4) (va_cpy (fun j => z2 (45 + 3 * j)) cd 0 0 4) (va_cpy (fun j => z2 (45 + 3 * j + 1)) cs 0 0 4) ch sg ++ HW b2 cI z2) := hD
  refine lv_aload_n hx hb dX0_copyFrom_104 rfl (lv_at hl 1 rfl) ?_
  refine va_get (D := D) (ci := 0) (v := .ref (b2 7)) (C := RX0) (T := TX0) (N := 10) hx hb hts iX0_copyFrom_0 hown hK hP 9 rfl rfl 8 (by decide) (hts (.fieldLink RX0 30 "HallSights$Hall" "columnHalves" "[I") (List.mem_of_getElem? (i := 13) rfl)) (fun _ h9 => h9) rfl dX0_copyFrom_105 ?_
  refine lv_iconst (v := nI 0) hx hb dX0_copyFrom_108 (by decide) ?_
  refine lv_aload_n hx hb dX0_copyFrom_109 rfl (lv_at hl 0 rfl) ?_
  refine va_get (D := D) (ci := 0) (v := .ref (b 7)) (C := RX0) (T := TX0) (N := 10) hx hb hts iX0_copyFrom_0 hown hK hP 0 rfl rfl 8 (by decide) (hts (.fieldLink RX0 30 "HallSights$Hall" "columnHalves" "[I") (List.mem_of_getElem? (i := 13) rfl)) (fun _ h9 => h9) rfl dX0_copyFrom_110 ?_
  refine lv_iconst (v := nI 0) hx hb dX0_copyFrom_113 (by decide) ?_
  refine lv_iconst (v := nI 4) hx hb dX0_copyFrom_114 (by decide) ?_
  refine kx_copyi hx hb (hml.trans hl.1.symm) hown (hts (.methodLink RX0 40 arraycopyName) (List.mem_of_getElem? (i := 3) rfl)) (hts (.native arraycopyName) (List.mem_of_getElem? (i := 4) rfl)) (hts (.static arraycopyName) (List.mem_of_getElem? (i := 5) rfl)) (hts (.initialized "java/lang/System") (List.mem_of_getElem? (i := 6) rfl)) hK hP hD hS 16 7 0 rfl rfl rfl 4 (by decide) (by decide) (by decide) (Nat.le_of_ble_eq_true rfl) (Nat.le_of_ble_eq_true rfl) dX0_copyFrom_115 (fun H locs hP hD hS => ?_)
  have hP : va_P D vwCl (HR b cI (z2 3) (va_cpy (fun j => z2 (5 + 4 * j)) di 0 0 10) (va_cpy (fun j => z2 (5 + 4 * j + 1)) hg 0 0 10) (va_cpy (fun j => z2 (5 + 4 * j + 2)) se 0 0 10) (va_cpy (fun j => z2 (5 + 4 * j + 3)) ta 0 0 10) (z2 4) (va_cpy (fun j => z2 (45 + 3 * j)) cd 0 0 4) (va_cpy (fun j => z2 (45 + 3 * j + 1)) cs 0 0 4) (va_cpy (fun j => z2 (45 + 3 * j + 2)) ch 0 0 4) sg ++ HW b2 cI z2) H := hP
  have hD : va_D (kA w0) (HR b cI (z2 3) (va_cpy (fun j => z2 (5 + 4 * j)) di 0 0 10) (va_cpy (fun j => z2 (5 + 4 * j + 1)) hg 0 0 10) (va_cpy (fun j => z2 (5 + 4 * j + 2)) se 0 0 10) (va_cpy (fun j => z2 (5 + 4 * j + 3)) ta 0 0 10) (z2 4) (va_cpy (fun j => z2 (45 + 3 * j)) cd 0 0 4) (va_cpy (fun j => z2 (45 + 3 * j + 1)) cs 0 0 4) (va_cpy (fun j => z2 (45 + 3 * j + 2)) ch 0 0 4) sg ++ HW b2 cI z2) := hD
  refine lv_aload_n hx hb dX0_copyFrom_118 rfl (lv_at hl 1 rfl) ?_
  refine va_get (D := D) (ci := 0) (v := .ref (b2 8)) (C := RX0) (T := TX0) (N := 10) hx hb hts iX0_copyFrom_0 hown hK hP 9 rfl rfl 9 (by decide) (hts (.fieldLink RX0 33 "HallSights$Hall" "settings" "[I") (List.mem_of_getElem? (i := 14) rfl)) (fun _ h9 => h9) rfl dX0_copyFrom_119 ?_
  refine lv_iconst (v := nI 0) hx hb dX0_copyFrom_122 (by decide) ?_
  refine lv_aload_n hx hb dX0_copyFrom_123 rfl (lv_at hl 0 rfl) ?_
  refine va_get (D := D) (ci := 0) (v := .ref (b 8)) (C := RX0) (T := TX0) (N := 10) hx hb hts iX0_copyFrom_0 hown hK hP 0 rfl rfl 9 (by decide) (hts (.fieldLink RX0 33 "HallSights$Hall" "settings" "[I") (List.mem_of_getElem? (i := 14) rfl)) (fun _ h9 => h9) rfl dX0_copyFrom_124 ?_
  refine lv_iconst (v := nI 0) hx hb dX0_copyFrom_127 (by decide) ?_
  refine lv_iconst (v := nI 3) hx hb dX0_copyFrom_128 (by decide) ?_
  refine kx_copyi hx hb (hml.trans hl.1.symm) hown (hts (.methodLink RX0 40 arraycopyName) (List.mem_of_getElem? (i := 3) rfl)) (hts (.native arraycopyName) (List.mem_of_getElem? (i := 4) rfl)) (hts (.static arraycopyName) (List.mem_of_getElem? (i := 5) rfl)) (hts (.initialized "java/lang/System") (List.mem_of_getElem? (i := 6) rfl)) hK hP hD hS 17 8 0 rfl rfl rfl 3 (by decide) (by decide) (by decide) (Nat.le_of_ble_eq_true rfl) (Nat.le_of_ble_eq_true rfl) dX0_copyFrom_129 (fun H locs hP hD hS => ?_)
  have hP : va_P D vwCl (HR b cI (z2 3) (va_cpy (fun j => z2 (5 + 4 * j)) di 0 0 10) (va_cpy (fun j => z2 (5 + 4 * j + 1)) hg 0 0 10) (va_cpy (fun j => z2 (5 + 4 * j + 2)) se 0 0 10) (va_cpy (fun j => z2 (5 + 4 * j + 3)) ta 0 0 10) (z2 4) (va_cpy (fun j => z2 (45 + 3 * j)) cd 0 0 4) (va_cpy (fun j => z2 (45 + 3 * j + 1)) cs 0 0 4) (va_cpy (fun j => z2 (45 + 3 * j + 2)) ch 0 0 4) (va_cpy z2 sg 0 0 3) ++ HW b2 cI z2) H := hP
  have hD : va_D (kA w0) (HR b cI (z2 3) (va_cpy (fun j => z2 (5 + 4 * j)) di 0 0 10) (va_cpy (fun j => z2 (5 + 4 * j + 1)) hg 0 0 10) (va_cpy (fun j => z2 (5 + 4 * j + 2)) se 0 0 10) (va_cpy (fun j => z2 (5 + 4 * j + 3)) ta 0 0 10) (z2 4) (va_cpy (fun j => z2 (45 + 3 * j)) cd 0 0 4) (va_cpy (fun j => z2 (45 + 3 * j + 1)) cs 0 0 4) (va_cpy (fun j => z2 (45 + 3 * j + 2)) ch 0 0 4) (va_cpy z2 sg 0 0 3) ++ HW b2 cI z2) := hD
  have hA := hP.sub (ws' := HR b cI (z2 3) (va_cpy (fun j => z2 (5 + 4 * j)) di 0 0 10) (va_cpy (fun j => z2 (5 + 4 * j + 1)) hg 0 0 10) (va_cpy (fun j => z2 (5 + 4 * j + 2)) se 0 0 10) (va_cpy (fun j => z2 (5 + 4 * j + 3)) ta 0 0 10) (z2 4) (va_cpy (fun j => z2 (45 + 3 * j)) cd 0 0 4) (va_cpy (fun j => z2 (45 + 3 * j + 1)) cs 0 0 4) (va_cpy (fun j => z2 (45 + 3 * j + 2)) ch 0 0 4) (va_cpy z2 sg 0 0 3)) [0, 1, 2, 3, 4, 5, 6, 7, 8] rfl
  have h_ro_0 : (z2 3 : Int32) = z2 3 := rfl
  have h_di_1 : ∀ j, j < 10 → ((va_cpy (fun j => z2 (5 + 4 * j)) di 0 0 10) : ZZ) j = ((fun j => z2 (5 + 4 * j)) : ZZ) j := fun j hj => sb_cpy0 hj
  have h_hg_2 : ∀ j, j < 10 → ((va_cpy (fun j => z2 (5 + 4 * j + 1)) hg 0 0 10) : ZZ) j = ((fun j => z2 (5 + 4 * j + 1)) : ZZ) j := fun j hj => sb_cpy0 hj
  have h_se_3 : ∀ j, j < 10 → ((va_cpy (fun j => z2 (5 + 4 * j + 2)) se 0 0 10) : ZZ) j = ((fun j => z2 (5 + 4 * j + 2)) : ZZ) j := fun j hj => sb_cpy0 hj
  have h_ta_4 : ∀ j, j < 10 → ((va_cpy (fun j => z2 (5 + 4 * j + 3)) ta 0 0 10) : ZZ) j = ((fun j => z2 (5 + 4 * j + 3)) : ZZ) j := fun j hj => sb_cpy0 hj
  have h_co_5 : (z2 4 : Int32) = z2 4 := rfl
  have h_cd_6 : ∀ j, j < 4 → ((va_cpy (fun j => z2 (45 + 3 * j)) cd 0 0 4) : ZZ) j = ((fun j => z2 (45 + 3 * j)) : ZZ) j := fun j hj => sb_cpy0 hj
  have h_cs_7 : ∀ j, j < 4 → ((va_cpy (fun j => z2 (45 + 3 * j + 1)) cs 0 0 4) : ZZ) j = ((fun j => z2 (45 + 3 * j + 1)) : ZZ) j := fun j hj => sb_cpy0 hj
  have h_ch_8 : ∀ j, j < 4 → ((va_cpy (fun j => z2 (45 + 3 * j + 2)) ch 0 0 4) : ZZ) j = ((fun j => z2 (45 + 3 * j + 2)) : ZZ) j := fun j hj => sb_cpy0 hj
  have h_sg_9 : ∀ j, j < 3 → ((va_cpy z2 sg 0 0 3) : ZZ) j = (z2 : ZZ) j := fun j hj => sb_cpy0 hj
  have hA := hw_ext hA _ _ _ _ _ _ _ _ h_ro_0 h_di_1 h_hg_2 h_se_3 h_ta_4 h_co_5 h_cd_6 h_cs_7 h_ch_8 h_sg_9
  have hB := hP.sub (ws' := HW b2 cI z2) [9, 10, 11, 12, 13, 14, 15, 16, 17] rfl
  have hP : va_P D vwCl (HW b cI z2 ++ HW b2 cI z2) _ := hA.app hB
  have hD : va_D (kA w0) (HW b cI z2 ++ HW b2 cI z2) := vaD_x hD rfl
  subst hw0
  exact kq_vret hx hb hrt hlocks hP hD hS dX0_copyFrom_132
set_option maxRecDepth 20000 in
theorem iX1_dropOldest_1 : ∀ w ∈ wsX10, w ∈ wsX1_dropOldest := by decide +kernel
set_option maxHeartbeats 4000000 in
set_option maxRecDepth 100000 in
theorem c_X1_dropOldest (l : Launch) (D : va_G) (cI cC cH cL : ClassId) (h : Nat → Nat) (kb : Nat → Nat → Nat) (nk : Nat) (q : Nat → ZZ)  (hn : nk = 6) : Met l yX1_dropOldest wsX1_dropOldest ({ frames := 0, cells := 0, slots := 0, locals := 0 }) (kw [.ref (h 0)] D (KWz h kb cI cH (nI nk) (fun i => some (kb i 0)) (q 0) (q 1) (q 2) (q 3) (q 4) (q 5)) (kT cI cC cH cL)) (kq D (KWz h kb cI cH (nI nk) (fun i => some (kb i 0)) (q 0) (q 1) (q 2) (q 3) (q 4) (q 5)) (KW h (rot kb) cI cH (nI 5) (rot q)) (.returned none)) 0 0 (kA (KWz h kb cI cH (nI nk) (fun i => some (kb i 0)) (q 0) (q 1) (q 2) (q 3) (q 4) (q 5))) := by
  refine Met.ofW (cc := cX1_dropOldest) (maxL := 3) (ret := none) (by decide) rfl ?_
  intro p e s m args below meth c s₁ B hml hv
  obtain ⟨rfl, hP, hK, hD0⟩ := hv
  have hx := B.exec
  have hb := B.bytes
  have hrt := B.returns
  have hts := atoms_spec (ws := wsX1_dropOldest) B.pre
  have hown : s.vm.findClass RX1 = some m.cls := findClass_of_methodNamed B.named
  have hlocks := B.notSynchronized
  have hl := lv_entry ([.ref (h 0)]) (n := 3) (Nat.le_of_ble_eq_true rfl)
  rw [lg_entry_eq]
  generalize (lg_sl ([.ref (h 0)]) ++ List.replicate (3 - (lg_sl ([.ref (h 0)])).length) Slot.unset).toArray = ls at hl ⊢
  have hl : lv_has ls 3 [(0, .ref (h 0))] := hl
  have hD := kA_self hD0
  obtain ⟨w0, hw0⟩ : ∃ w : va_W, w = KWz h kb cI cH (nI nk) (fun i => some (kb i 0)) (q 0) (q 1) (q 2) (q 3) (q 4) (q 5) := ⟨_, rfl⟩
  have hD : va_D (kA w0) (KWz h kb cI cH (nI nk) (fun i => some (kb i 0)) (q 0) (q 1) (q 2) (q 3) (q 4) (q 5)) := by rw [hw0]; exact hD
  have hS : va_S (kA w0) s.heap s.heap [] := va_S.rf
  rw [show kA (KWz h kb cI cH (nI nk) (fun i => some (kb i 0)) (q 0) (q 1) (q 2) (q 3) (q 4) (q 5)) = kA w0 from by rw [hw0], show kq D (KWz h kb cI cH (nI nk) (fun i => some (kb i 0)) (q 0) (q 1) (q 2) (q 3) (q 4) (q 5)) = kq D w0 from by rw [hw0]]
  have hP : va_P D vwCl (KWz h kb cI cH (nI nk) (fun i => some (kb i 0)) (q 0) (q 1) (q 2) (q 3) (q 4) (q 5)) s.heap := hP
  subst hn
  refine lv_aload_n hx hb dX1_dropOldest_0 rfl (lv_at hl 0 rfl) ?_
  refine va_get (D := D) (ci := 1) (v := .ref (h 1)) (C := RX1) (T := TX1) (N := 2) hx hb hts iX1_dropOldest_1 hown hK hP 0 rfl rfl 0 (by decide) (hts (.fieldLink RX1 11 "HallSights$History" "kept" "[LHallSights$Hall;") (List.mem_of_getElem? (i := 1) rfl)) (fun _ h9 => h9) rfl dX1_dropOldest_1 ?_
  refine lv_iconst (v := nI 0) hx hb dX1_dropOldest_4 (by decide) ?_
  refine kx_aldq (v := kb 0 0) hx hb hK hP 1 2 rfl rfl (by decide) (by decide) rfl dX1_dropOldest_5 ?_
  refine lv_astore_n (lv' := [(1, .ref (kb 0 0)), (0, .ref (h 0))]) hx hb dX1_dropOldest_6 rfl hl (by decide) rfl (fun ls hl => ?_)
  refine lv_iconst (v := nI 1) hx hb dX1_dropOldest_7 (by decide) ?_
  refine lv_istore_n (lv' := [(2, .int (nI 1)), (1, .ref (kb 0 0)), (0, .ref (h 0))]) hx hb dX1_dropOldest_8 rfl hl (by decide) rfl (fun ls hl => ?_)
  refine lv_iload_n hx hb dX1_dropOldest_9 rfl (lv_at hl 0 rfl) ?_
  refine lv_bipush (v := nI 6) hx hb dX1_dropOldest_10 (by decide) ?_
  refine kx_icmp_ge (tgt := 35) hx hb (by omega) (by omega) dX1_dropOldest_12 (by decide) (fun c => absurd c (by omega)) (fun c_12_0 => ?_)
  refine lv_aload_n hx hb dX1_dropOldest_15 rfl (lv_at hl 2 rfl) ?_
  refine va_get (D := D) (ci := 1) (v := .ref (h 1)) (C := RX1) (T := TX1) (N := 2) hx hb hts iX1_dropOldest_1 hown hK hP 0 rfl rfl 0 (by decide) (hts (.fieldLink RX1 11 "HallSights$History" "kept" "[LHallSights$Hall;") (List.mem_of_getElem? (i := 1) rfl)) (fun _ h9 => h9) rfl dX1_dropOldest_16 ?_
  refine lv_iload_n hx hb dX1_dropOldest_19 rfl (lv_at hl 0 rfl) ?_
  refine lv_iconst (v := nI 1) hx hb dX1_dropOldest_20 (by decide) ?_
  refine kx_isub hx hb (by omega) dX1_dropOldest_21 ?_
  refine lv_aload_n hx hb dX1_dropOldest_22 rfl (lv_at hl 2 rfl) ?_
  refine va_get (D := D) (ci := 1) (v := .ref (h 1)) (C := RX1) (T := TX1) (N := 2) hx hb hts iX1_dropOldest_1 hown hK hP 0 rfl rfl 0 (by decide) (hts (.fieldLink RX1 11 "HallSights$History" "kept" "[LHallSights$Hall;") (List.mem_of_getElem? (i := 1) rfl)) (fun _ h9 => h9) rfl dX1_dropOldest_23 ?_
  refine lv_iload_n hx hb dX1_dropOldest_26 rfl (lv_at hl 0 rfl) ?_
  refine kx_aldq (v := kb 1 0) hx hb hK hP 1 2 rfl rfl (by decide) (by decide) rfl dX1_dropOldest_27 ?_
  refine kx_astq hx hb hK hP hD hS 1 2 11 0 rfl rfl rfl rfl (by decide) (by decide) dX1_dropOldest_28 (fun H locs hP hD hS => ?_)
  have hP : va_P D vwCl (KWz h kb cI cH (nI 6) (va_up (fun i => some (kb i 0)) 0 (some (kb 1 0))) (q 0) (q 1) (q 2) (q 3) (q 4) (q 5)) H := hP
  have hD : va_D (kA w0) (KWz h kb cI cH (nI 6) (va_up (fun i => some (kb i 0)) 0 (some (kb 1 0))) (q 0) (q 1) (q 2) (q 3) (q 4) (q 5)) := hD
  refine lv_iinc (v := nI 2) (lv' := [(2, .int (nI 2)), (1, .ref (kb 0 0)), (0, .ref (h 0))]) hx hb dX1_dropOldest_29 hl (k := 0) rfl (kx_inc 1) (by decide) rfl (fun ls hl => ?_)
  refine lv_goto (tgt := 9) hx hb dX1_dropOldest_32 (by decide) ?_
  refine lv_iload_n hx hb dX1_dropOldest_9 rfl (lv_at hl 0 rfl) ?_
  refine lv_bipush (v := nI 6) hx hb dX1_dropOldest_10 (by decide) ?_
  refine kx_icmp_ge (tgt := 35) hx hb (by omega) (by omega) dX1_dropOldest_12 (by decide) (fun c => absurd c (by omega)) (fun c_12_1 => ?_)
  refine lv_aload_n hx hb dX1_dropOldest_15 rfl (lv_at hl 2 rfl) ?_
  refine va_get (D := D) (ci := 1) (v := .ref (h 1)) (C := RX1) (T := TX1) (N := 2) hx hb hts iX1_dropOldest_1 hown hK hP 0 rfl rfl 0 (by decide) (hts (.fieldLink RX1 11 "HallSights$History" "kept" "[LHallSights$Hall;") (List.mem_of_getElem? (i := 1) rfl)) (fun _ h9 => h9) rfl dX1_dropOldest_16 ?_
  refine lv_iload_n hx hb dX1_dropOldest_19 rfl (lv_at hl 0 rfl) ?_
  refine lv_iconst (v := nI 1) hx hb dX1_dropOldest_20 (by decide) ?_
  refine kx_isub hx hb (by omega) dX1_dropOldest_21 ?_
  refine lv_aload_n hx hb dX1_dropOldest_22 rfl (lv_at hl 2 rfl) ?_
  refine va_get (D := D) (ci := 1) (v := .ref (h 1)) (C := RX1) (T := TX1) (N := 2) hx hb hts iX1_dropOldest_1 hown hK hP 0 rfl rfl 0 (by decide) (hts (.fieldLink RX1 11 "HallSights$History" "kept" "[LHallSights$Hall;") (List.mem_of_getElem? (i := 1) rfl)) (fun _ h9 => h9) rfl dX1_dropOldest_23 ?_
  refine lv_iload_n hx hb dX1_dropOldest_26 rfl (lv_at hl 0 rfl) ?_
  refine kx_aldq (v := kb 2 0) hx hb hK hP 1 2 rfl rfl (by decide) (by decide) rfl dX1_dropOldest_27 ?_
  refine kx_astq hx hb hK hP hD hS 1 2 20 0 rfl rfl rfl rfl (by decide) (by decide) dX1_dropOldest_28 (fun H locs hP hD hS => ?_)
  have hP : va_P D vwCl (KWz h kb cI cH (nI 6) (va_up (va_up (fun i => some (kb i 0)) 0 (some (kb 1 0))) 1 (some (kb 2 0))) (q 0) (q 1) (q 2) (q 3) (q 4) (q 5)) H := hP
  have hD : va_D (kA w0) (KWz h kb cI cH (nI 6) (va_up (va_up (fun i => some (kb i 0)) 0 (some (kb 1 0))) 1 (some (kb 2 0))) (q 0) (q 1) (q 2) (q 3) (q 4) (q 5)) := hD
  refine lv_iinc (v := nI 3) (lv' := [(2, .int (nI 3)), (1, .ref (kb 0 0)), (0, .ref (h 0))]) hx hb dX1_dropOldest_29 hl (k := 0) rfl (kx_inc 1) (by decide) rfl (fun ls hl => ?_)
  refine lv_goto (tgt := 9) hx hb dX1_dropOldest_32 (by decide) ?_
  refine lv_iload_n hx hb dX1_dropOldest_9 rfl (lv_at hl 0 rfl) ?_
  refine lv_bipush (v := nI 6) hx hb dX1_dropOldest_10 (by decide) ?_
  refine kx_icmp_ge (tgt := 35) hx hb (by omega) (by omega) dX1_dropOldest_12 (by decide) (fun c => absurd c (by omega)) (fun c_12_2 => ?_)
  refine lv_aload_n hx hb dX1_dropOldest_15 rfl (lv_at hl 2 rfl) ?_
  refine va_get (D := D) (ci := 1) (v := .ref (h 1)) (C := RX1) (T := TX1) (N := 2) hx hb hts iX1_dropOldest_1 hown hK hP 0 rfl rfl 0 (by decide) (hts (.fieldLink RX1 11 "HallSights$History" "kept" "[LHallSights$Hall;") (List.mem_of_getElem? (i := 1) rfl)) (fun _ h9 => h9) rfl dX1_dropOldest_16 ?_
  refine lv_iload_n hx hb dX1_dropOldest_19 rfl (lv_at hl 0 rfl) ?_
  refine lv_iconst (v := nI 1) hx hb dX1_dropOldest_20 (by decide) ?_
  refine kx_isub hx hb (by omega) dX1_dropOldest_21 ?_
  refine lv_aload_n hx hb dX1_dropOldest_22 rfl (lv_at hl 2 rfl) ?_
  refine va_get (D := D) (ci := 1) (v := .ref (h 1)) (C := RX1) (T := TX1) (N := 2) hx hb hts iX1_dropOldest_1 hown hK hP 0 rfl rfl 0 (by decide) (hts (.fieldLink RX1 11 "HallSights$History" "kept" "[LHallSights$Hall;") (List.mem_of_getElem? (i := 1) rfl)) (fun _ h9 => h9) rfl dX1_dropOldest_23 ?_
  refine lv_iload_n hx hb dX1_dropOldest_26 rfl (lv_at hl 0 rfl) ?_
  refine kx_aldq (v := kb 3 0) hx hb hK hP 1 2 rfl rfl (by decide) (by decide) rfl dX1_dropOldest_27 ?_
  refine kx_astq hx hb hK hP hD hS 1 2 29 0 rfl rfl rfl rfl (by decide) (by decide) dX1_dropOldest_28 (fun H locs hP hD hS => ?_)
  have hP : va_P D vwCl (KWz h kb cI cH (nI 6) (va_up (va_up (va_up (fun i => some (kb i 0)) 0 (some (kb 1 0))) 1 (some (kb 2 0))) 2 (some (kb 3 0))) (q 0) (q 1) (q 2) (q 3) (q 4) (q 5)) H := hP
  have hD : va_D (kA w0) (KWz h kb cI cH (nI 6) (va_up (va_up (va_up (fun i => some (kb i 0)) 0 (some (kb 1 0))) 1 (some (kb 2 0))) 2 (some (kb 3 0))) (q 0) (q 1) (q 2) (q 3) (q 4) (q 5)) := hD
  refine lv_iinc (v := nI 4) (lv' := [(2, .int (nI 4)), (1, .ref (kb 0 0)), (0, .ref (h 0))]) hx hb dX1_dropOldest_29 hl (k := 0) rfl (kx_inc 1) (by decide) rfl (fun ls hl => ?_)
  refine lv_goto (tgt := 9) hx hb dX1_dropOldest_32 (by decide) ?_
  refine lv_iload_n hx hb dX1_dropOldest_9 rfl (lv_at hl 0 rfl) ?_
  refine lv_bipush (v := nI 6) hx hb dX1_dropOldest_10 (by decide) ?_
  refine kx_icmp_ge (tgt := 35) hx hb (by omega) (by omega) dX1_dropOldest_12 (by decide) (fun c => absurd c (by omega)) (fun c_12_3 => ?_)
  refine lv_aload_n hx hb dX1_dropOldest_15 rfl (lv_at hl 2 rfl) ?_
  refine va_get (D := D) (ci := 1) (v := .ref (h 1)) (C := RX1) (T := TX1) (N := 2) hx hb hts iX1_dropOldest_1 hown hK hP 0 rfl rfl 0 (by decide) (hts (.fieldLink RX1 11 "HallSights$History" "kept" "[LHallSights$Hall;") (List.mem_of_getElem? (i := 1) rfl)) (fun _ h9 => h9) rfl dX1_dropOldest_16 ?_
  refine lv_iload_n hx hb dX1_dropOldest_19 rfl (lv_at hl 0 rfl) ?_
  refine lv_iconst (v := nI 1) hx hb dX1_dropOldest_20 (by decide) ?_
  refine kx_isub hx hb (by omega) dX1_dropOldest_21 ?_
  refine lv_aload_n hx hb dX1_dropOldest_22 rfl (lv_at hl 2 rfl) ?_
  refine va_get (D := D) (ci := 1) (v := .ref (h 1)) (C := RX1) (T := TX1) (N := 2) hx hb hts iX1_dropOldest_1 hown hK hP 0 rfl rfl 0 (by decide) (hts (.fieldLink RX1 11 "HallSights$History" "kept" "[LHallSights$Hall;") (List.mem_of_getElem? (i := 1) rfl)) (fun _ h9 => h9) rfl dX1_dropOldest_23 ?_
  refine lv_iload_n hx hb dX1_dropOldest_26 rfl (lv_at hl 0 rfl) ?_
  refine kx_aldq (v := kb 4 0) hx hb hK hP 1 2 rfl rfl (by decide) (by decide) rfl dX1_dropOldest_27 ?_
  refine kx_astq hx hb hK hP hD hS 1 2 38 0 rfl rfl rfl rfl (by decide) (by decide) dX1_dropOldest_28 (fun H locs hP hD hS => ?_)
  have hP : va_P D vwCl (KWz h kb cI cH (nI 6) (va_up (va_up (va_up (va_up (fun i => some (kb i 0)) 0 (some (kb 1 0))) 1 (some (kb 2 0))) 2 (some (kb 3 0))) 3 (some (kb 4 0))) (q 0) (q 1) (q 2) (q 3) (q 4) (q 5)) H := hP
  have hD : va_D (kA w0) (KWz h kb cI cH (nI 6) (va_up (va_up (va_up (va_up (fun i => some (kb i 0)) 0 (some (kb 1 0))) 1 (some (kb 2 0))) 2 (some (kb 3 0))) 3 (some (kb 4 0))) (q 0) (q 1) (q 2) (q 3) (q 4) (q 5)) := hD
  refine lv_iinc (v := nI 5) (lv' := [(2, .int (nI 5)), (1, .ref (kb 0 0)), (0, .ref (h 0))]) hx hb dX1_dropOldest_29 hl (k := 0) rfl (kx_inc 1) (by decide) rfl (fun ls hl => ?_)
  refine lv_goto (tgt := 9) hx hb dX1_dropOldest_32 (by decide) ?_
  refine lv_iload_n hx hb dX1_dropOldest_9 rfl (lv_at hl 0 rfl) ?_
  refine lv_bipush (v := nI 6) hx hb dX1_dropOldest_10 (by decide) ?_
  refine kx_icmp_ge (tgt := 35) hx hb (by omega) (by omega) dX1_dropOldest_12 (by decide) (fun c => absurd c (by omega)) (fun c_12_4 => ?_)
  refine lv_aload_n hx hb dX1_dropOldest_15 rfl (lv_at hl 2 rfl) ?_
  refine va_get (D := D) (ci := 1) (v := .ref (h 1)) (C := RX1) (T := TX1) (N := 2) hx hb hts iX1_dropOldest_1 hown hK hP 0 rfl rfl 0 (by decide) (hts (.fieldLink RX1 11 "HallSights$History" "kept" "[LHallSights$Hall;") (List.mem_of_getElem? (i := 1) rfl)) (fun _ h9 => h9) rfl dX1_dropOldest_16 ?_
  refine lv_iload_n hx hb dX1_dropOldest_19 rfl (lv_at hl 0 rfl) ?_
  refine lv_iconst (v := nI 1) hx hb dX1_dropOldest_20 (by decide) ?_
  refine kx_isub hx hb (by omega) dX1_dropOldest_21 ?_
  refine lv_aload_n hx hb dX1_dropOldest_22 rfl (lv_at hl 2 rfl) ?_
  refine va_get (D := D) (ci := 1) (v := .ref (h 1)) (C := RX1) (T := TX1) (N := 2) hx hb hts iX1_dropOldest_1 hown hK hP 0 rfl rfl 0 (by decide) (hts (.fieldLink RX1 11 "HallSights$History" "kept" "[LHallSights$Hall;") (List.mem_of_getElem? (i := 1) rfl)) (fun _ h9 => h9) rfl dX1_dropOldest_23 ?_
  refine lv_iload_n hx hb dX1_dropOldest_26 rfl (lv_at hl 0 rfl) ?_
  refine kx_aldq (v := kb 5 0) hx hb hK hP 1 2 rfl rfl (by decide) (by decide) rfl dX1_dropOldest_27 ?_
  refine kx_astq hx hb hK hP hD hS 1 2 47 0 rfl rfl rfl rfl (by decide) (by decide) dX1_dropOldest_28 (fun H locs hP hD hS => ?_)
  have hP : va_P D vwCl (KWz h kb cI cH (nI 6) (va_up (va_up (va_up (va_up (va_up (fun i => some (kb i 0)) 0 (some (kb 1 0))) 1 (some (kb 2 0))) 2 (some (kb 3 0))) 3 (some (kb 4 0))) 4 (some (kb 5 0))) (q 0) (q 1) (q 2) (q 3) (q 4) (q 5)) H := hP
  have hD : va_D (kA w0) (KWz h kb cI cH (nI 6) (va_up (va_up (va_up (va_up (va_up (fun i => some (kb i 0)) 0 (some (kb 1 0))) 1 (some (kb 2 0))) 2 (some (kb 3 0))) 3 (some (kb 4 0))) 4 (some (kb 5 0))) (q 0) (q 1) (q 2) (q 3) (q 4) (q 5)) := hD
  refine lv_iinc (v := nI 6) (lv' := [(2, .int (nI 6)), (1, .ref (kb 0 0)), (0, .ref (h 0))]) hx hb dX1_dropOldest_29 hl (k := 0) rfl (kx_inc 1) (by decide) rfl (fun ls hl => ?_)
  refine lv_goto (tgt := 9) hx hb dX1_dropOldest_32 (by decide) ?_
  refine lv_iload_n hx hb dX1_dropOldest_9 rfl (lv_at hl 0 rfl) ?_
  refine lv_bipush (v := nI 6) hx hb dX1_dropOldest_10 (by decide) ?_
  refine kx_icmp_ge (tgt := 35) hx hb (by omega) (by omega) dX1_dropOldest_12 (by decide) (fun c_12_5 => ?_) (fun c => absurd c (by omega))
  refine lv_aload_n hx hb dX1_dropOldest_35 rfl (lv_at hl 2 rfl) ?_
  refine va_get (D := D) (ci := 1) (v := .ref (h 1)) (C := RX1) (T := TX1) (N := 2) hx hb hts iX1_dropOldest_1 hown hK hP 0 rfl rfl 0 (by decide) (hts (.fieldLink RX1 11 "HallSights$History" "kept" "[LHallSights$Hall;") (List.mem_of_getElem? (i := 1) rfl)) (fun _ h9 => h9) rfl dX1_dropOldest_36 ?_
  refine lv_iconst (v := nI 5) hx hb dX1_dropOldest_39 (by decide) ?_
  refine lv_aload_n hx hb dX1_dropOldest_40 rfl (lv_at hl 1 rfl) ?_
  refine kx_astq hx hb hK hP hD hS 1 2 2 0 rfl rfl rfl rfl (by decide) (by decide) dX1_dropOldest_41 (fun H locs hP hD hS => ?_)
  have hP : va_P D vwCl (KWz h kb cI cH (nI 6) (va_up (va_up (va_up (va_up (va_up (va_up (fun i => some (kb i 0)) 0 (some (kb 1 0))) 1 (some (kb 2 0))) 2 (some (kb 3 0))) 3 (some (kb 4 0))) 4 (some (kb 5 0))) 5 (some (kb 0 0))) (q 0) (q 1) (q 2) (q 3) (q 4) (q 5)) H := hP
  have hD : va_D (kA w0) (KWz h kb cI cH (nI 6) (va_up (va_up (va_up (va_up (va_up (va_up (fun i => some (kb i 0)) 0 (some (kb 1 0))) 1 (some (kb 2 0))) 2 (some (kb 3 0))) 3 (some (kb 4 0))) 4 (some (kb 5 0))) 5 (some (kb 0 0))) (q 0) (q 1) (q 2) (q 3) (q 4) (q 5)) := hD
  refine lv_aload_n hx hb dX1_dropOldest_42 rfl (lv_at hl 2 rfl) ?_
  refine lv_dup hx hb dX1_dropOldest_43 rfl ?_
  refine va_get (D := D) (ci := 1) (v := .int (nI 6)) (C := RX1) (T := TX1) (N := 2) hx hb hts iX1_dropOldest_1 hown hK hP 0 rfl rfl 1 (by decide) (hts (.fieldLink RX1 18 "HallSights$History" "size" "I") (List.mem_of_getElem? (i := 2) rfl)) (fun _ h9 => h9) rfl dX1_dropOldest_44 ?_
  refine lv_iconst (v := nI 1) hx hb dX1_dropOldest_47 (by decide) ?_
  refine kx_isub hx hb (by omega) dX1_dropOldest_48 ?_
  refine va_put (D := D) (ci := 1) (v := .int (nI 5)) (ty := .int) (C := RX1) (T := TX1) (N := 2) hx hb hts iX1_dropOldest_1 tyX1 tyX1_ok nmX1 hown hK hP hD hS 0 rfl rfl 1 (by decide) (hts (.fieldLink RX1 18 "HallSights$History" "size" "I") (List.mem_of_getElem? (i := 2) rfl)) (fun _ h9 => h9) rfl (by decide +kernel) rfl rfl (Nat.le_of_ble_eq_true rfl) dX1_dropOldest_49 (fun H locs hP hD hS => ?_)
  have hP : va_P D vwCl (KWz h kb cI cH (nI 5) (va_up (va_up (va_up (va_up (va_up (va_up (fun i => some (kb i 0)) 0 (some (kb 1 0))) 1 (some (kb 2 0))) 2 (some (kb 3 0))) 3 (some (kb 4 0))) 4 (some (kb 5 0))) 5 (some (kb 0 0))) (q 0) (q 1) (q 2) (q 3) (q 4) (q 5)) H := hP
  have hD : va_D (kA w0) (KWz h kb cI cH (nI 5) (va_up (va_up (va_up (va_up (va_up (va_up (fun i => some (kb i 0)) 0 (some (kb 1 0))) 1 (some (kb 2 0))) 2 (some (kb 3 0))) 3 (some (kb 4 0))) 4 (some (kb 5 0))) 5 (some (kb 0 0))) (q 0) (q 1) (q 2) (q 3) (q 4) (q 5)) := hD
  have hP : va_P D vwCl (KWz h kb cI cH (nI (6 - 1)) (fun i => some (rot kb i 0)) (q 0) (q 1) (q 2) (q 3) (q 4) (q 5)) _ := arr_extq hP 1 rfl (rot_kf kb)
  have hD : va_D (kA w0) (KWz h kb cI cH (nI (6 - 1)) (fun i => some (rot kb i 0)) (q 0) (q 1) (q 2) (q 3) (q 4) (q 5)) := vaD_x hD rfl
  have hP : va_P D vwCl (KW h (rot kb) cI cH (nI 5) (rot q)) _ := hP.sub (0 :: 1 :: 11 :: 12 :: 13 :: 14 :: 15 :: 16 :: 17 :: 18 :: 19 :: 20 :: 21 :: 22 :: 23 :: 24 :: 25 :: 26 :: 27 :: 28 :: 29 :: 30 :: 31 :: 32 :: 33 :: 34 :: 35 :: 36 :: 37 :: 38 :: 39 :: 40 :: 41 :: 42 :: 43 :: 44 :: 45 :: 46 :: 47 :: 48 :: 49 :: 50 :: 51 :: 52 :: 53 :: 54 :: 55 :: 2 :: 3 :: 4 :: 5 :: 6 :: 7 :: 8 :: 9 :: 10 :: []) rfl
  have hD : va_D (kA w0) (KW h (rot kb) cI cH (nI 5) (rot q)) := hD.sub (0 :: 1 :: 11 :: 12 :: 13 :: 14 :: 15 :: 16 :: 17 :: 18 :: 19 :: 20 :: 21 :: 22 :: 23 :: 24 :: 25 :: 26 :: 27 :: 28 :: 29 :: 30 :: 31 :: 32 :: 33 :: 34 :: 35 :: 36 :: 37 :: 38 :: 39 :: 40 :: 41 :: 42 :: 43 :: 44 :: 45 :: 46 :: 47 :: 48 :: 49 :: 50 :: 51 :: 52 :: 53 :: 54 :: 55 :: 2 :: 3 :: 4 :: 5 :: 6 :: 7 :: 8 :: 9 :: 10 :: []) (by decide) rfl
  subst hw0
  exact kq_vret hx hb hrt hlocks hP hD hS dX1_dropOldest_52
set_option maxRecDepth 20000 in
theorem iX1_keep_1 : ∀ w ∈ wsX10, w ∈ wsX1_keep := by decide +kernel
set_option maxHeartbeats 4000000 in
set_option maxRecDepth 100000 in
theorem c_X1_keep (l : Launch) (D : va_G) (cI cC cH cL : ClassId) (h : Nat → Nat) (kb : Nat → Nat → Nat) (nk : Nat) (q : Nat → ZZ) (b : Nat → Nat) (z : ZZ)  (hn : nk ≤ 6) : Met l yX1_keep wsX1_keep ({ frames := 2, cells := 0, slots := 0, locals := 81 }) (kw [.ref (h 0), .ref (b 0)] D (KWz h kb cI cH (nI nk) (fun i => some (kb i 0)) (q 0) (q 1) (q 2) (q 3) (q 4) (q 5) ++ HW b cI z) (kT cI cC cH cL)) (kq D (KWz h kb cI cH (nI nk) (fun i => some (kb i 0)) (q 0) (q 1) (q 2) (q 3) (q 4) (q 5) ++ HW b cI z) (KW h (kbK nk kb) cI cH (nI (nK nk)) (qK nk q z) ++ HW b cI z) (.returned none)) 0 0 (kA (KWz h kb cI cH (nI nk) (fun i => some (kb i 0)) (q 0) (q 1) (q 2) (q 3) (q 4) (q 5) ++ HW b cI z)) := by
  refine Met.ofW (cc := cX1_keep) (maxL := 2) (ret := none) (by decide) rfl ?_
  intro p e s m args below meth c s₁ B hml hv
  obtain ⟨rfl, hP, hK, hD0⟩ := hv
  have hx := B.exec
  have hb := B.bytes
  have hrt := B.returns
  have hts := atoms_spec (ws := wsX1_keep) B.pre
  have hown : s.vm.findClass RX1 = some m.cls := findClass_of_methodNamed B.named
  have hlocks := B.notSynchronized
  have hl := lv_entry ([.ref (h 0), .ref (b 0)]) (n := 2) (Nat.le_of_ble_eq_true rfl)
  rw [lg_entry_eq]
  generalize (lg_sl ([.ref (h 0), .ref (b 0)]) ++ List.replicate (2 - (lg_sl ([.ref (h 0), .ref (b 0)])).length) Slot.unset).toArray = ls at hl ⊢
  have hl : lv_has ls 2 [(0, .ref (h 0)), (1, .ref (b 0))] := hl
  have hD := kA_self hD0
  obtain ⟨w0, hw0⟩ : ∃ w : va_W, w = KWz h kb cI cH (nI nk) (fun i => some (kb i 0)) (q 0) (q 1) (q 2) (q 3) (q 4) (q 5) ++ HW b cI z := ⟨_, rfl⟩
  have hD : va_D (kA w0) (KWz h kb cI cH (nI nk) (fun i => some (kb i 0)) (q 0) (q 1) (q 2) (q 3) (q 4) (q 5) ++ HW b cI z) := by rw [hw0]; exact hD
  have hS : va_S (kA w0) s.heap s.heap [] := va_S.rf
  rw [show kA (KWz h kb cI cH (nI nk) (fun i => some (kb i 0)) (q 0) (q 1) (q 2) (q 3) (q 4) (q 5) ++ HW b cI z) = kA w0 from by rw [hw0], show kq D (KWz h kb cI cH (nI nk) (fun i => some (kb i 0)) (q 0) (q 1) (q 2) (q 3) (q 4) (q 5) ++ HW b cI z) = kq D w0 from by rw [hw0]]
  have hP : va_P D vwCl (KWz h kb cI cH (nI nk) (fun i => some (kb i 0)) (q 0) (q 1) (q 2) (q 3) (q 4) (q 5) ++ HW b cI z) s.heap := hP
  rcases (show nk = 0 ∨ nk = 1 ∨ nk = 2 ∨ nk = 3 ∨ nk = 4 ∨ nk = 5 ∨ nk = 6 by omega) with rfl | rfl | rfl | rfl | rfl | rfl | rfl
  · refine lv_aload_n hx hb dX1_keep_0 rfl (lv_at hl 0 rfl) ?_
    refine va_get (D := D) (ci := 1) (v := .int (nI 0)) (C := RX1) (T := TX1) (N := 2) hx hb hts iX1_keep_1 hown hK hP 0 rfl rfl 1 (by decide) (hts (.fieldLink RX1 18 "HallSights$History" "size" "I") (List.mem_of_getElem? (i := 1) rfl)) (fun _ h9 => h9) rfl dX1_keep_1 ?_
    refine lv_bipush (v := nI 6) hx hb dX1_keep_4 (by decide) ?_
    refine kx_icmp_ne (tgt := 13) hx hb (by omega) (by omega) dX1_keep_6 (by decide) (fun c_6_0 => ?_) (fun c => absurd c (by omega))
    refine lv_aload_n hx hb dX1_keep_13 rfl (lv_at hl 0 rfl) ?_
    refine va_get (D := D) (ci := 1) (v := .ref (h 1)) (C := RX1) (T := TX1) (N := 2) hx hb hts iX1_keep_1 hown hK hP 0 rfl rfl 0 (by decide) (hts (.fieldLink RX1 11 "HallSights$History" "kept" "[LHallSights$Hall;") (List.mem_of_getElem? (i := 2) rfl)) (fun _ h9 => h9) rfl dX1_keep_14 ?_
    refine lv_aload_n hx hb dX1_keep_17 rfl (lv_at hl 0 rfl) ?_
    refine va_get (D := D) (ci := 1) (v := .int (nI 0)) (C := RX1) (T := TX1) (N := 2) hx hb hts iX1_keep_1 hown hK hP 0 rfl rfl 1 (by decide) (hts (.fieldLink RX1 18 "HallSights$History" "size" "I") (List.mem_of_getElem? (i := 1) rfl)) (fun _ h9 => h9) rfl dX1_keep_18 ?_
    refine kx_aldq (v := kb 0 0) hx hb hK hP 1 2 rfl rfl (by decide) (by decide) rfl dX1_keep_21 ?_
    refine lv_aload_n hx hb dX1_keep_22 rfl (lv_at hl 1 rfl) ?_
    refine kw_V (As := [.ref (b 0)]) (rest := []) (C := RX0) (own := RX1) ⟨hx, hb, hml, hown, hts⟩ (c_X0_copyFrom l D cI cC cH cL (kb 0) ((q 0) 3) ((q 0) 4) (fun j => (q 0) (5 + 4 * j)) (fun j => (q 0) (5 + 4 * j + 1)) (fun j => (q 0) (5 + 4 * j + 2)) (fun j => (q 0) (5 + 4 * j + 3)) (fun j => (q 0) (45 + 3 * j)) (fun j => (q 0) (45 + 3 * j + 1)) (fun j => (q 0) (45 + 3 * j + 2)) (q 0) b z  ) (cwV 1 hts gX1_keep_X0_copyFrom rfl rfl rfl k_X0_copyFrom ⟨Nat.le_of_ble_eq_true rfl, Nat.le_of_ble_eq_true rfl⟩) hP hD hK hS [2, 3, 4, 5, 6, 7, 8, 9, 10, 56, 57, 58, 59, 60, 61, 62, 63, 64] (0 :: 1 :: 11 :: 12 :: 13 :: 14 :: 15 :: 16 :: 17 :: 18 :: 19 :: 20 :: 21 :: 22 :: 23 :: 24 :: 25 :: 26 :: 27 :: 28 :: 29 :: 30 :: 31 :: 32 :: 33 :: 34 :: 35 :: 36 :: 37 :: 38 :: 39 :: 40 :: 41 :: 42 :: 43 :: 44 :: 45 :: 46 :: 47 :: 48 :: 49 :: 50 :: 51 :: 52 :: 53 :: 54 :: 55 :: []) rfl rfl (wr := ([(h 0, .inr (1, [.ref (h 1), .int (nI 0)])), (h 1, .inl (cH, 6, .inr (.inr (.inr (.inr (fun i => some (kb i 0)))))))] ++ (HW (kb 1) cI (q 1) ++ (HW (kb 2) cI (q 2) ++ (HW (kb 3) cI (q 3) ++ (HW (kb 4) cI (q 4) ++ (HW (kb 5) cI (q 5)))))))) rfl (by decide) (by decide) (by decide) (va_recv (q := (RX0, TX0, 10)) hK hP (ci := 0) (q0 := 2) rfl rfl) rfl hl.1 rfl (Nat.le_of_ble_eq_true rfl) dX1_keep_23 ⟨Nat.le_of_ble_eq_true rfl, Nat.le_of_ble_eq_true rfl⟩ (fun H locs hP hD hS => ?_)
    have hP : va_P D vwCl (KWz h kb cI cH (nI 0) (fun i => some (kb i 0)) z (q 1) (q 2) (q 3) (q 4) (q 5) ++ HW b cI z) H := hP.sub (0 :: 1 :: 47 :: 48 :: 49 :: 50 :: 51 :: 52 :: 53 :: 54 :: 55 :: 2 :: 3 :: 4 :: 5 :: 6 :: 7 :: 8 :: 9 :: 10 :: 11 :: 12 :: 13 :: 14 :: 15 :: 16 :: 17 :: 18 :: 19 :: 20 :: 21 :: 22 :: 23 :: 24 :: 25 :: 26 :: 27 :: 28 :: 29 :: 30 :: 31 :: 32 :: 33 :: 34 :: 35 :: 36 :: 37 :: 38 :: 39 :: 40 :: 41 :: 42 :: 43 :: 44 :: 45 :: 46 :: 56 :: 57 :: 58 :: 59 :: 60 :: 61 :: 62 :: 63 :: 64 :: []) rfl
    have hD : va_D (kA w0) (KWz h kb cI cH (nI 0) (fun i => some (kb i 0)) z (q 1) (q 2) (q 3) (q 4) (q 5) ++ HW b cI z) := hD.sub (0 :: 1 :: 47 :: 48 :: 49 :: 50 :: 51 :: 52 :: 53 :: 54 :: 55 :: 2 :: 3 :: 4 :: 5 :: 6 :: 7 :: 8 :: 9 :: 10 :: 11 :: 12 :: 13 :: 14 :: 15 :: 16 :: 17 :: 18 :: 19 :: 20 :: 21 :: 22 :: 23 :: 24 :: 25 :: 26 :: 27 :: 28 :: 29 :: 30 :: 31 :: 32 :: 33 :: 34 :: 35 :: 36 :: 37 :: 38 :: 39 :: 40 :: 41 :: 42 :: 43 :: 44 :: 45 :: 46 :: 56 :: 57 :: 58 :: 59 :: 60 :: 61 :: 62 :: 63 :: 64 :: []) (by decide) rfl
    refine lv_aload_n hx hb dX1_keep_26 rfl (lv_at hl 0 rfl) ?_
    refine lv_dup hx hb dX1_keep_27 rfl ?_
    refine va_get (D := D) (ci := 1) (v := .int (nI 0)) (C := RX1) (T := TX1) (N := 2) hx hb hts iX1_keep_1 hown hK hP 0 rfl rfl 1 (by decide) (hts (.fieldLink RX1 18 "HallSights$History" "size" "I") (List.mem_of_getElem? (i := 1) rfl)) (fun _ h9 => h9) rfl dX1_keep_28 ?_
    refine lv_iconst (v := nI 1) hx hb dX1_keep_31 (by decide) ?_
    refine kx_iadd hx hb dX1_keep_32 ?_
    refine va_put (D := D) (ci := 1) (v := .int (nI 1)) (ty := .int) (C := RX1) (T := TX1) (N := 2) hx hb hts iX1_keep_1 tyX1 tyX1_ok nmX1 hown hK hP hD hS 0 rfl rfl 1 (by decide) (hts (.fieldLink RX1 18 "HallSights$History" "size" "I") (List.mem_of_getElem? (i := 1) rfl)) (fun _ h9 => h9) rfl (by decide +kernel) rfl rfl (Nat.le_of_ble_eq_true rfl) dX1_keep_33 (fun H locs hP hD hS => ?_)
    have hP : va_P D vwCl (KWz h kb cI cH (nI 1) (fun i => some (kb i 0)) z (q 1) (q 2) (q 3) (q 4) (q 5) ++ HW b cI z) H := hP
    have hD : va_D (kA w0) (KWz h kb cI cH (nI 1) (fun i => some (kb i 0)) z (q 1) (q 2) (q 3) (q 4) (q 5) ++ HW b cI z) := hD
    have hP : va_P D vwCl (KW h (kbK 0 kb) cI cH (nI (nK 0)) (qK 0 q z) ++ HW b cI z) _ := hP
    have hD : va_D (kA w0) (KW h (kbK 0 kb) cI cH (nI (nK 0)) (qK 0 q z) ++ HW b cI z) := hD
    subst hw0
    exact kq_vret hx hb hrt hlocks hP hD hS dX1_keep_36
  · refine lv_aload_n hx hb dX1_keep_0 rfl (lv_at hl 0 rfl) ?_
    refine va_get (D := D) (ci := 1) (v := .int (nI 1)) (C := RX1) (T := TX1) (N := 2) hx hb hts iX1_keep_1 hown hK hP 0 rfl rfl 1 (by decide) (hts (.fieldLink RX1 18 "HallSights$History" "size" "I") (List.mem_of_getElem? (i := 1) rfl)) (fun _ h9 => h9) rfl dX1_keep_1 ?_
    refine lv_bipush (v := nI 6) hx hb dX1_keep_4 (by decide) ?_
    refine kx_icmp_ne (tgt := 13) hx hb (by omega) (by omega) dX1_keep_6 (by decide) (fun c_6_1 => ?_) (fun c => absurd c (by omega))
    refine lv_aload_n hx hb dX1_keep_13 rfl (lv_at hl 0 rfl) ?_
    refine va_get (D := D) (ci := 1) (v := .ref (h 1)) (C := RX1) (T := TX1) (N := 2) hx hb hts iX1_keep_1 hown hK hP 0 rfl rfl 0 (by decide) (hts (.fieldLink RX1 11 "HallSights$History" "kept" "[LHallSights$Hall;") (List.mem_of_getElem? (i := 2) rfl)) (fun _ h9 => h9) rfl dX1_keep_14 ?_
    refine lv_aload_n hx hb dX1_keep_17 rfl (lv_at hl 0 rfl) ?_
    refine va_get (D := D) (ci := 1) (v := .int (nI 1)) (C := RX1) (T := TX1) (N := 2) hx hb hts iX1_keep_1 hown hK hP 0 rfl rfl 1 (by decide) (hts (.fieldLink RX1 18 "HallSights$History" "size" "I") (List.mem_of_getElem? (i := 1) rfl)) (fun _ h9 => h9) rfl dX1_keep_18 ?_
    refine kx_aldq (v := kb 1 0) hx hb hK hP 1 2 rfl rfl (by decide) (by decide) rfl dX1_keep_21 ?_
    refine lv_aload_n hx hb dX1_keep_22 rfl (lv_at hl 1 rfl) ?_
    refine kw_V (As := [.ref (b 0)]) (rest := []) (C := RX0) (own := RX1) ⟨hx, hb, hml, hown, hts⟩ (c_X0_copyFrom l D cI cC cH cL (kb 1) ((q 1) 3) ((q 1) 4) (fun j => (q 1) (5 + 4 * j)) (fun j => (q 1) (5 + 4 * j + 1)) (fun j => (q 1) (5 + 4 * j + 2)) (fun j => (q 1) (5 + 4 * j + 3)) (fun j => (q 1) (45 + 3 * j)) (fun j => (q 1) (45 + 3 * j + 1)) (fun j => (q 1) (45 + 3 * j + 2)) (q 1) b z  ) (cwV 1 hts gX1_keep_X0_copyFrom rfl rfl rfl k_X0_copyFrom ⟨Nat.le_of_ble_eq_true rfl, Nat.le_of_ble_eq_true rfl⟩) hP hD hK hS [11, 12, 13, 14, 15, 16, 17, 18, 19, 56, 57, 58, 59, 60, 61, 62, 63, 64] (0 :: 1 :: 2 :: 3 :: 4 :: 5 :: 6 :: 7 :: 8 :: 9 :: 10 :: 20 :: 21 :: 22 :: 23 :: 24 :: 25 :: 26 :: 27 :: 28 :: 29 :: 30 :: 31 :: 32 :: 33 :: 34 :: 35 :: 36 :: 37 :: 38 :: 39 :: 40 :: 41 :: 42 :: 43 :: 44 :: 45 :: 46 :: 47 :: 48 :: 49 :: 50 :: 51 :: 52 :: 53 :: 54 :: 55 :: []) rfl rfl (wr := ([(h 0, .inr (1, [.ref (h 1), .int (nI 1)])), (h 1, .inl (cH, 6, .inr (.inr (.inr (.inr (fun i => some (kb i 0)))))))] ++ (HW (kb 0) cI (q 0) ++ (HW (kb 2) cI (q 2) ++ (HW (kb 3) cI (q 3) ++ (HW (kb 4) cI (q 4) ++ (HW (kb 5) cI (q 5)))))))) rfl (by decide) (by decide) (by decide) (va_recv (q := (RX0, TX0, 10)) hK hP (ci := 0) (q0 := 11) rfl rfl) rfl hl.1 rfl (Nat.le_of_ble_eq_true rfl) dX1_keep_23 ⟨Nat.le_of_ble_eq_true rfl, Nat.le_of_ble_eq_true rfl⟩ (fun H locs hP hD hS => ?_)
    have hP : va_P D vwCl (KWz h kb cI cH (nI 1) (fun i => some (kb i 0)) (q 0) z (q 2) (q 3) (q 4) (q 5) ++ HW b cI z) H := hP.sub (0 :: 1 :: 2 :: 3 :: 4 :: 5 :: 6 :: 7 :: 8 :: 9 :: 10 :: 47 :: 48 :: 49 :: 50 :: 51 :: 52 :: 53 :: 54 :: 55 :: 11 :: 12 :: 13 :: 14 :: 15 :: 16 :: 17 :: 18 :: 19 :: 20 :: 21 :: 22 :: 23 :: 24 :: 25 :: 26 :: 27 :: 28 :: 29 :: 30 :: 31 :: 32 :: 33 :: 34 :: 35 :: 36 :: 37 :: 38 :: 39 :: 40 :: 41 :: 42 :: 43 :: 44 :: 45 :: 46 :: 56 :: 57 :: 58 :: 59 :: 60 :: 61 :: 62 :: 63 :: 64 :: []) rfl
    have hD : va_D (kA w0) (KWz h kb cI cH (nI 1) (fun i => some (kb i 0)) (q 0) z (q 2) (q 3) (q 4) (q 5) ++ HW b cI z) := hD.sub (0 :: 1 :: 2 :: 3 :: 4 :: 5 :: 6 :: 7 :: 8 :: 9 :: 10 :: 47 :: 48 :: 49 :: 50 :: 51 :: 52 :: 53 :: 54 :: 55 :: 11 :: 12 :: 13 :: 14 :: 15 :: 16 :: 17 :: 18 :: 19 :: 20 :: 21 :: 22 :: 23 :: 24 :: 25 :: 26 :: 27 :: 28 :: 29 :: 30 :: 31 :: 32 :: 33 :: 34 :: 35 :: 36 :: 37 :: 38 :: 39 :: 40 :: 41 :: 42 :: 43 :: 44 :: 45 :: 46 :: 56 :: 57 :: 58 :: 59 :: 60 :: 61 :: 62 :: 63 :: 64 :: []) (by decide) rfl
    refine lv_aload_n hx hb dX1_keep_26 rfl (lv_at hl 0 rfl) ?_
    refine lv_dup hx hb dX1_keep_27 rfl ?_
    refine va_get (D := D) (ci := 1) (v := .int (nI 1)) (C := RX1) (T := TX1) (N := 2) hx hb hts iX1_keep_1 hown hK hP 0 rfl rfl 1 (by decide) (hts (.fieldLink RX1 18 "HallSights$History" "size" "I") (List.mem_of_getElem? (i := 1) rfl)) (fun _ h9 => h9) rfl dX1_keep_28 ?_
    refine lv_iconst (v := nI 1) hx hb dX1_keep_31 (by decide) ?_
    refine kx_iadd hx hb dX1_keep_32 ?_
    refine va_put (D := D) (ci := 1) (v := .int (nI 2)) (ty := .int) (C := RX1) (T := TX1) (N := 2) hx hb hts iX1_keep_1 tyX1 tyX1_ok nmX1 hown hK hP hD hS 0 rfl rfl 1 (by decide) (hts (.fieldLink RX1 18 "HallSights$History" "size" "I") (List.mem_of_getElem? (i := 1) rfl)) (fun _ h9 => h9) rfl (by decide +kernel) rfl rfl (Nat.le_of_ble_eq_true rfl) dX1_keep_33 (fun H locs hP hD hS => ?_)
    have hP : va_P D vwCl (KWz h kb cI cH (nI 2) (fun i => some (kb i 0)) (q 0) z (q 2) (q 3) (q 4) (q 5) ++ HW b cI z) H := hP
    have hD : va_D (kA w0) (KWz h kb cI cH (nI 2) (fun i => some (kb i 0)) (q 0) z (q 2) (q 3) (q 4) (q 5) ++ HW b cI z) := hD
    have hP : va_P D vwCl (KW h (kbK 1 kb) cI cH (nI (nK 1)) (qK 1 q z) ++ HW b cI z) _ := hP
    have hD : va_D (kA w0) (KW h (kbK 1 kb) cI cH (nI (nK 1)) (qK 1 q z) ++ HW b cI z) := hD
    subst hw0
    exact kq_vret hx hb hrt hlocks hP hD hS dX1_keep_36
  · refine lv_aload_n hx hb dX1_keep_0 rfl (lv_at hl 0 rfl) ?_
    refine va_get (D := D) (ci := 1) (v := .int (nI 2)) (C := RX1) (T := TX1) (N := 2) hx hb hts iX1_keep_1 hown hK hP 0 rfl rfl 1 (by decide) (hts (.fieldLink RX1 18 "HallSights$History" "size" "I") (List.mem_of_getElem? (i := 1) rfl)) (fun _ h9 => h9) rfl dX1_keep_1 ?_
    refine lv_bipush (v := nI 6) hx hb dX1_keep_4 (by decide) ?_
    refine kx_icmp_ne (tgt := 13) hx hb (by omega) (by omega) dX1_keep_6 (by decide) (fun c_6_2 => ?_) (fun c => absurd c (by omega))
    refine lv_aload_n hx hb dX1_keep_13 rfl (lv_at hl 0 rfl) ?_
    refine va_get (D := D) (ci := 1) (v := .ref (h 1)) (C := RX1) (T := TX1) (N := 2) hx hb hts iX1_keep_1 hown hK hP 0 rfl rfl 0 (by decide) (hts (.fieldLink RX1 11 "HallSights$History" "kept" "[LHallSights$Hall;") (List.mem_of_getElem? (i := 2) rfl)) (fun _ h9 => h9) rfl dX1_keep_14 ?_
    refine lv_aload_n hx hb dX1_keep_17 rfl (lv_at hl 0 rfl) ?_
    refine va_get (D := D) (ci := 1) (v := .int (nI 2)) (C := RX1) (T := TX1) (N := 2) hx hb hts iX1_keep_1 hown hK hP 0 rfl rfl 1 (by decide) (hts (.fieldLink RX1 18 "HallSights$History" "size" "I") (List.mem_of_getElem? (i := 1) rfl)) (fun _ h9 => h9) rfl dX1_keep_18 ?_
    refine kx_aldq (v := kb 2 0) hx hb hK hP 1 2 rfl rfl (by decide) (by decide) rfl dX1_keep_21 ?_
    refine lv_aload_n hx hb dX1_keep_22 rfl (lv_at hl 1 rfl) ?_
    refine kw_V (As := [.ref (b 0)]) (rest := []) (C := RX0) (own := RX1) ⟨hx, hb, hml, hown, hts⟩ (c_X0_copyFrom l D cI cC cH cL (kb 2) ((q 2) 3) ((q 2) 4) (fun j => (q 2) (5 + 4 * j)) (fun j => (q 2) (5 + 4 * j + 1)) (fun j => (q 2) (5 + 4 * j + 2)) (fun j => (q 2) (5 + 4 * j + 3)) (fun j => (q 2) (45 + 3 * j)) (fun j => (q 2) (45 + 3 * j + 1)) (fun j => (q 2) (45 + 3 * j + 2)) (q 2) b z  ) (cwV 1 hts gX1_keep_X0_copyFrom rfl rfl rfl k_X0_copyFrom ⟨Nat.le_of_ble_eq_true rfl, Nat.le_of_ble_eq_true rfl⟩) hP hD hK hS [20, 21, 22, 23, 24, 25, 26, 27, 28, 56, 57, 58, 59, 60, 61, 62, 63, 64] (0 :: 1 :: 2 :: 3 :: 4 :: 5 :: 6 :: 7 :: 8 :: 9 :: 10 :: 11 :: 12 :: 13 :: 14 :: 15 :: 16 :: 17 :: 18 :: 19 :: 29 :: 30 :: 31 :: 32 :: 33 :: 34 :: 35 :: 36 :: 37 :: 38 :: 39 :: 40 :: 41 :: 42 :: 43 :: 44 :: 45 :: 46 :: 47 :: 48 :: 49 :: 50 :: 51 :: 52 :: 53 :: 54 :: 55 :: []) rfl rfl (wr := ([(h 0, .inr (1, [.ref (h 1), .int (nI 2)])), (h 1, .inl (cH, 6, .inr (.inr (.inr (.inr (fun i => some (kb i 0)))))))] ++ (HW (kb 0) cI (q 0) ++ (HW (kb 1) cI (q 1) ++ (HW (kb 3) cI (q 3) ++ (HW (kb 4) cI (q 4) ++ (HW (kb 5) cI (q 5)))))))) rfl (by decide) (by decide) (by decide) (va_recv (q := (RX0, TX0, 10)) hK hP (ci := 0) (q0 := 20) rfl rfl) rfl hl.1 rfl (Nat.le_of_ble_eq_true rfl) dX1_keep_23 ⟨Nat.le_of_ble_eq_true rfl, Nat.le_of_ble_eq_true rfl⟩ (fun H locs hP hD hS => ?_)
    have hP : va_P D vwCl (KWz h kb cI cH (nI 2) (fun i => some (kb i 0)) (q 0) (q 1) z (q 3) (q 4) (q 5) ++ HW b cI z) H := hP.sub (0 :: 1 :: 2 :: 3 :: 4 :: 5 :: 6 :: 7 :: 8 :: 9 :: 10 :: 11 :: 12 :: 13 :: 14 :: 15 :: 16 :: 17 :: 18 :: 19 :: 47 :: 48 :: 49 :: 50 :: 51 :: 52 :: 53 :: 54 :: 55 :: 20 :: 21 :: 22 :: 23 :: 24 :: 25 :: 26 :: 27 :: 28 :: 29 :: 30 :: 31 :: 32 :: 33 :: 34 :: 35 :: 36 :: 37 :: 38 :: 39 :: 40 :: 41 :: 42 :: 43 :: 44 :: 45 :: 46 :: 56 :: 57 :: 58 :: 59 :: 60 :: 61 :: 62 :: 63 :: 64 :: []) rfl
    have hD : va_D (kA w0) (KWz h kb cI cH (nI 2) (fun i => some (kb i 0)) (q 0) (q 1) z (q 3) (q 4) (q 5) ++ HW b cI z) := hD.sub (0 :: 1 :: 2 :: 3 :: 4 :: 5 :: 6 :: 7 :: 8 :: 9 :: 10 :: 11 :: 12 :: 13 :: 14 :: 15 :: 16 :: 17 :: 18 :: 19 :: 47 :: 48 :: 49 :: 50 :: 51 :: 52 :: 53 :: 54 :: 55 :: 20 :: 21 :: 22 :: 23 :: 24 :: 25 :: 26 :: 27 :: 28 :: 29 :: 30 :: 31 :: 32 :: 33 :: 34 :: 35 :: 36 :: 37 :: 38 :: 39 :: 40 :: 41 :: 42 :: 43 :: 44 :: 45 :: 46 :: 56 :: 57 :: 58 :: 59 :: 60 :: 61 :: 62 :: 63 :: 64 :: []) (by decide) rfl
    refine lv_aload_n hx hb dX1_keep_26 rfl (lv_at hl 0 rfl) ?_
    refine lv_dup hx hb dX1_keep_27 rfl ?_
    refine va_get (D := D) (ci := 1) (v := .int (nI 2)) (C := RX1) (T := TX1) (N := 2) hx hb hts iX1_keep_1 hown hK hP 0 rfl rfl 1 (by decide) (hts (.fieldLink RX1 18 "HallSights$History" "size" "I") (List.mem_of_getElem? (i := 1) rfl)) (fun _ h9 => h9) rfl dX1_keep_28 ?_
    refine lv_iconst (v := nI 1) hx hb dX1_keep_31 (by decide) ?_
    refine kx_iadd hx hb dX1_keep_32 ?_
    refine va_put (D := D) (ci := 1) (v := .int (nI 3)) (ty := .int) (C := RX1) (T := TX1) (N := 2) hx hb hts iX1_keep_1 tyX1 tyX1_ok nmX1 hown hK hP hD hS 0 rfl rfl 1 (by decide) (hts (.fieldLink RX1 18 "HallSights$History" "size" "I") (List.mem_of_getElem? (i := 1) rfl)) (fun _ h9 => h9) rfl (by decide +kernel) rfl rfl (Nat.le_of_ble_eq_true rfl) dX1_keep_33 (fun H locs hP hD hS => ?_)
    have hP : va_P D vwCl (KWz h kb cI cH (nI 3) (fun i => some (kb i 0)) (q 0) (q 1) z (q 3) (q 4) (q 5) ++ HW b cI z) H := hP
    have hD : va_D (kA w0) (KWz h kb cI cH (nI 3) (fun i => some (kb i 0)) (q 0) (q 1) z (q 3) (q 4) (q 5) ++ HW b cI z) := hD
    have hP : va_P D vwCl (KW h (kbK 2 kb) cI cH (nI (nK 2)) (qK 2 q z) ++ HW b cI z) _ := hP
    have hD : va_D (kA w0) (KW h (kbK 2 kb) cI cH (nI (nK 2)) (qK 2 q z) ++ HW b cI z) := hD
    subst hw0
    exact kq_vret hx hb hrt hlocks hP hD hS dX1_keep_36
  · refine lv_aload_n hx hb dX1_keep_0 rfl (lv_at hl 0 rfl) ?_
    refine va_get (D := D) (ci := 1) (v := .int (nI 3)) (C := RX1) (T := TX1) (N := 2) hx hb hts iX1_keep_1 hown hK hP 0 rfl rfl 1 (by decide) (hts (.fieldLink RX1 18 "HallSights$History" "size" "I") (List.mem_of_getElem? (i := 1) rfl)) (fun _ h9 => h9) rfl dX1_keep_1 ?_
    refine lv_bipush (v := nI 6) hx hb dX1_keep_4 (by decide) ?_
    refine kx_icmp_ne (tgt := 13) hx hb (by omega) (by omega) dX1_keep_6 (by decide) (fun c_6_3 => ?_) (fun c => absurd c (by omega))
    refine lv_aload_n hx hb dX1_keep_13 rfl (lv_at hl 0 rfl) ?_
    refine va_get (D := D) (ci := 1) (v := .ref (h 1)) (C := RX1) (T := TX1) (N := 2) hx hb hts iX1_keep_1 hown hK hP 0 rfl rfl 0 (by decide) (hts (.fieldLink RX1 11 "HallSights$History" "kept" "[LHallSights$Hall;") (List.mem_of_getElem? (i := 2) rfl)) (fun _ h9 => h9) rfl dX1_keep_14 ?_
    refine lv_aload_n hx hb dX1_keep_17 rfl (lv_at hl 0 rfl) ?_
    refine va_get (D := D) (ci := 1) (v := .int (nI 3)) (C := RX1) (T := TX1) (N := 2) hx hb hts iX1_keep_1 hown hK hP 0 rfl rfl 1 (by decide) (hts (.fieldLink RX1 18 "HallSights$History" "size" "I") (List.mem_of_getElem? (i := 1) rfl)) (fun _ h9 => h9) rfl dX1_keep_18 ?_
    refine kx_aldq (v := kb 3 0) hx hb hK hP 1 2 rfl rfl (by decide) (by decide) rfl dX1_keep_21 ?_
    refine lv_aload_n hx hb dX1_keep_22 rfl (lv_at hl 1 rfl) ?_
    refine kw_V (As := [.ref (b 0)]) (rest := []) (C := RX0) (own := RX1) ⟨hx, hb, hml, hown, hts⟩ (c_X0_copyFrom l D cI cC cH cL (kb 3) ((q 3) 3) ((q 3) 4) (fun j => (q 3) (5 + 4 * j)) (fun j => (q 3) (5 + 4 * j + 1)) (fun j => (q 3) (5 + 4 * j + 2)) (fun j => (q 3) (5 + 4 * j + 3)) (fun j => (q 3) (45 + 3 * j)) (fun j => (q 3) (45 + 3 * j + 1)) (fun j => (q 3) (45 + 3 * j + 2)) (q 3) b z  ) (cwV 1 hts gX1_keep_X0_copyFrom rfl rfl rfl k_X0_copyFrom ⟨Nat.le_of_ble_eq_true rfl, Nat.le_of_ble_eq_true rfl⟩) hP hD hK hS [29, 30, 31, 32, 33, 34, 35, 36, 37, 56, 57, 58, 59, 60, 61, 62, 63, 64] (0 :: 1 :: 2 :: 3 :: 4 :: 5 :: 6 :: 7 :: 8 :: 9 :: 10 :: 11 :: 12 :: 13 :: 14 :: 15 :: 16 :: 17 :: 18 :: 19 :: 20 :: 21 :: 22 :: 23 :: 24 :: 25 :: 26 :: 27 :: 28 :: 38 :: 39 :: 40 :: 41 :: 42 :: 43 :: 44 :: 45 :: 46 :: 47 :: 48 :: 49 :: 50 :: 51 :: 52 :: 53 :: 54 :: 55 :: []) rfl rfl (wr := ([(h 0, .inr (1, [.ref (h 1), .int (nI 3)])), (h 1, .inl (cH, 6, .inr (.inr (.inr (.inr (fun i => some (kb i 0)))))))] ++ (HW (kb 0) cI (q 0) ++ (HW (kb 1) cI (q 1) ++ (HW (kb 2) cI (q 2) ++ (HW (kb 4) cI (q 4) ++ (HW (kb 5) cI (q 5)))))))) rfl (by decide) (by decide) (by decide) (va_recv (q := (RX0, TX0, 10)) hK hP (ci := 0) (q0 := 29) rfl rfl) rfl hl.1 rfl (Nat.le_of_ble_eq_true rfl) dX1_keep_23 ⟨Nat.le_of_ble_eq_true rfl, Nat.le_of_ble_eq_true rfl⟩ (fun H locs hP hD hS => ?_)
    have hP : va_P D vwCl (KWz h kb cI cH (nI 3) (fun i => some (kb i 0)) (q 0) (q 1) (q 2) z (q 4) (q 5) ++ HW b cI z) H := hP.sub (0 :: 1 :: 2 :: 3 :: 4 :: 5 :: 6 :: 7 :: 8 :: 9 :: 10 :: 11 :: 12 :: 13 :: 14 :: 15 :: 16 :: 17 :: 18 :: 19 :: 20 :: 21 :: 22 :: 23 :: 24 :: 25 :: 26 :: 27 :: 28 :: 47 :: 48 :: 49 :: 50 :: 51 :: 52 :: 53 :: 54 :: 55 :: 29 :: 30 :: 31 :: 32 :: 33 :: 34 :: 35 :: 36 :: 37 :: 38 :: 39 :: 40 :: 41 :: 42 :: 43 :: 44 :: 45 :: 46 :: 56 :: 57 :: 58 :: 59 :: 60 :: 61 :: 62 :: 63 :: 64 :: []) rfl
    have hD : va_D (kA w0) (KWz h kb cI cH (nI 3) (fun i => some (kb i 0)) (q 0) (q 1) (q 2) z (q 4) (q 5) ++ HW b cI z) := hD.sub (0 :: 1 :: 2 :: 3 :: 4 :: 5 :: 6 :: 7 :: 8 :: 9 :: 10 :: 11 :: 12 :: 13 :: 14 :: 15 :: 16 :: 17 :: 18 :: 19 :: 20 :: 21 :: 22 :: 23 :: 24 :: 25 :: 26 :: 27 :: 28 :: 47 :: 48 :: 49 :: 50 :: 51 :: 52 :: 53 :: 54 :: 55 :: 29 :: 30 :: 31 :: 32 :: 33 :: 34 :: 35 :: 36 :: 37 :: 38 :: 39 :: 40 :: 41 :: 42 :: 43 :: 44 :: 45 :: 46 :: 56 :: 57 :: 58 :: 59 :: 60 :: 61 :: 62 :: 63 :: 64 :: []) (by decide) rfl
    refine lv_aload_n hx hb dX1_keep_26 rfl (lv_at hl 0 rfl) ?_
    refine lv_dup hx hb dX1_keep_27 rfl ?_
    refine va_get (D := D) (ci := 1) (v := .int (nI 3)) (C := RX1) (T := TX1) (N := 2) hx hb hts iX1_keep_1 hown hK hP 0 rfl rfl 1 (by decide) (hts (.fieldLink RX1 18 "HallSights$History" "size" "I") (List.mem_of_getElem? (i := 1) rfl)) (fun _ h9 => h9) rfl dX1_keep_28 ?_
    refine lv_iconst (v := nI 1) hx hb dX1_keep_31 (by decide) ?_
    refine kx_iadd hx hb dX1_keep_32 ?_
    refine va_put (D := D) (ci := 1) (v := .int (nI 4)) (ty := .int) (C := RX1) (T := TX1) (N := 2) hx hb hts iX1_keep_1 tyX1 tyX1_ok nmX1 hown hK hP hD hS 0 rfl rfl 1 (by decide) (hts (.fieldLink RX1 18 "HallSights$History" "size" "I") (List.mem_of_getElem? (i := 1) rfl)) (fun _ h9 => h9) rfl (by decide +kernel) rfl rfl (Nat.le_of_ble_eq_true rfl) dX1_keep_33 (fun H locs hP hD hS => ?_)
    have hP : va_P D vwCl (KWz h kb cI cH (nI 4) (fun i => some (kb i 0)) (q 0) (q 1) (q 2) z (q 4) (q 5) ++ HW b cI z) H := hP
    have hD : va_D (kA w0) (KWz h kb cI cH (nI 4) (fun i => some (kb i 0)) (q 0) (q 1) (q 2) z (q 4) (q 5) ++ HW b cI z) := hD
    have hP : va_P D vwCl (KW h (kbK 3 kb) cI cH (nI (nK 3)) (qK 3 q z) ++ HW b cI z) _ := hP
    have hD : va_D (kA w0) (KW h (kbK 3 kb) cI cH (nI (nK 3)) (qK 3 q z) ++ HW b cI z) := hD
    subst hw0
    exact kq_vret hx hb hrt hlocks hP hD hS dX1_keep_36
  · refine lv_aload_n hx hb dX1_keep_0 rfl (lv_at hl 0 rfl) ?_
    refine va_get (D := D) (ci := 1) (v := .int (nI 4)) (C := RX1) (T := TX1) (N := 2) hx hb hts iX1_keep_1 hown hK hP 0 rfl rfl 1 (by decide) (hts (.fieldLink RX1 18 "HallSights$History" "size" "I") (List.mem_of_getElem? (i := 1) rfl)) (fun _ h9 => h9) rfl dX1_keep_1 ?_
    refine lv_bipush (v := nI 6) hx hb dX1_keep_4 (by decide) ?_
    refine kx_icmp_ne (tgt := 13) hx hb (by omega) (by omega) dX1_keep_6 (by decide) (fun c_6_4 => ?_) (fun c => absurd c (by omega))
    refine lv_aload_n hx hb dX1_keep_13 rfl (lv_at hl 0 rfl) ?_
    refine va_get (D := D) (ci := 1) (v := .ref (h 1)) (C := RX1) (T := TX1) (N := 2) hx hb hts iX1_keep_1 hown hK hP 0 rfl rfl 0 (by decide) (hts (.fieldLink RX1 11 "HallSights$History" "kept" "[LHallSights$Hall;") (List.mem_of_getElem? (i := 2) rfl)) (fun _ h9 => h9) rfl dX1_keep_14 ?_
    refine lv_aload_n hx hb dX1_keep_17 rfl (lv_at hl 0 rfl) ?_
    refine va_get (D := D) (ci := 1) (v := .int (nI 4)) (C := RX1) (T := TX1) (N := 2) hx hb hts iX1_keep_1 hown hK hP 0 rfl rfl 1 (by decide) (hts (.fieldLink RX1 18 "HallSights$History" "size" "I") (List.mem_of_getElem? (i := 1) rfl)) (fun _ h9 => h9) rfl dX1_keep_18 ?_
    refine kx_aldq (v := kb 4 0) hx hb hK hP 1 2 rfl rfl (by decide) (by decide) rfl dX1_keep_21 ?_
    refine lv_aload_n hx hb dX1_keep_22 rfl (lv_at hl 1 rfl) ?_
    refine kw_V (As := [.ref (b 0)]) (rest := []) (C := RX0) (own := RX1) ⟨hx, hb, hml, hown, hts⟩ (c_X0_copyFrom l D cI cC cH cL (kb 4) ((q 4) 3) ((q 4) 4) (fun j => (q 4) (5 + 4 * j)) (fun j => (q 4) (5 + 4 * j + 1)) (fun j => (q 4) (5 + 4 * j + 2)) (fun j => (q 4) (5 + 4 * j + 3)) (fun j => (q 4) (45 + 3 * j)) (fun j => (q 4) (45 + 3 * j + 1)) (fun j => (q 4) (45 + 3 * j + 2)) (q 4) b z  ) (cwV 1 hts gX1_keep_X0_copyFrom rfl rfl rfl k_X0_copyFrom ⟨Nat.le_of_ble_eq_true rfl, Nat.le_of_ble_eq_true rfl⟩) hP hD hK hS [38, 39, 40, 41, 42, 43, 44, 45, 46, 56, 57, 58, 59, 60, 61, 62, 63, 64] (0 :: 1 :: 2 :: 3 :: 4 :: 5 :: 6 :: 7 :: 8 :: 9 :: 10 :: 11 :: 12 :: 13 :: 14 :: 15 :: 16 :: 17 :: 18 :: 19 :: 20 :: 21 :: 22 :: 23 :: 24 :: 25 :: 26 :: 27 :: 28 :: 29 :: 30 :: 31 :: 32 :: 33 :: 34 :: 35 :: 36 :: 37 :: 47 :: 48 :: 49 :: 50 :: 51 :: 52 :: 53 :: 54 :: 55 :: []) rfl rfl (wr := ([(h 0, .inr (1, [.ref (h 1), .int (nI 4)])), (h 1, .inl (cH, 6, .inr (.inr (.inr (.inr (fun i => some (kb i 0)))))))] ++ (HW (kb 0) cI (q 0) ++ (HW (kb 1) cI (q 1) ++ (HW (kb 2) cI (q 2) ++ (HW (kb 3) cI (q 3) ++ (HW (kb 5) cI (q 5)))))))) rfl (by decide) (by decide) (by decide) (va_recv (q := (RX0, TX0, 10)) hK hP (ci := 0) (q0 := 38) rfl rfl) rfl hl.1 rfl (Nat.le_of_ble_eq_true rfl) dX1_keep_23 ⟨Nat.le_of_ble_eq_true rfl, Nat.le_of_ble_eq_true rfl⟩ (fun H locs hP hD hS => ?_)
    have hP : va_P D vwCl (KWz h kb cI cH (nI 4) (fun i => some (kb i 0)) (q 0) (q 1) (q 2) (q 3) z (q 5) ++ HW b cI z) H := hP.sub (0 :: 1 :: 2 :: 3 :: 4 :: 5 :: 6 :: 7 :: 8 :: 9 :: 10 :: 11 :: 12 :: 13 :: 14 :: 15 :: 16 :: 17 :: 18 :: 19 :: 20 :: 21 :: 22 :: 23 :: 24 :: 25 :: 26 :: 27 :: 28 :: 29 :: 30 :: 31 :: 32 :: 33 :: 34 :: 35 :: 36 :: 37 :: 47 :: 48 :: 49 :: 50 :: 51 :: 52 :: 53 :: 54 :: 55 :: 38 :: 39 :: 40 :: 41 :: 42 :: 43 :: 44 :: 45 :: 46 :: 56 :: 57 :: 58 :: 59 :: 60 :: 61 :: 62 :: 63 :: 64 :: []) rfl
    have hD : va_D (kA w0) (KWz h kb cI cH (nI 4) (fun i => some (kb i 0)) (q 0) (q 1) (q 2) (q 3) z (q 5) ++ HW b cI z) := hD.sub (0 :: 1 :: 2 :: 3 :: 4 :: 5 :: 6 :: 7 :: 8 :: 9 :: 10 :: 11 :: 12 :: 13 :: 14 :: 15 :: 16 :: 17 :: 18 :: 19 :: 20 :: 21 :: 22 :: 23 :: 24 :: 25 :: 26 :: 27 :: 28 :: 29 :: 30 :: 31 :: 32 :: 33 :: 34 :: 35 :: 36 :: 37 :: 47 :: 48 :: 49 :: 50 :: 51 :: 52 :: 53 :: 54 :: 55 :: 38 :: 39 :: 40 :: 41 :: 42 :: 43 :: 44 :: 45 :: 46 :: 56 :: 57 :: 58 :: 59 :: 60 :: 61 :: 62 :: 63 :: 64 :: []) (by decide) rfl
    refine lv_aload_n hx hb dX1_keep_26 rfl (lv_at hl 0 rfl) ?_
    refine lv_dup hx hb dX1_keep_27 rfl ?_
    refine va_get (D := D) (ci := 1) (v := .int (nI 4)) (C := RX1) (T := TX1) (N := 2) hx hb hts iX1_keep_1 hown hK hP 0 rfl rfl 1 (by decide) (hts (.fieldLink RX1 18 "HallSights$History" "size" "I") (List.mem_of_getElem? (i := 1) rfl)) (fun _ h9 => h9) rfl dX1_keep_28 ?_
    refine lv_iconst (v := nI 1) hx hb dX1_keep_31 (by decide) ?_
    refine kx_iadd hx hb dX1_keep_32 ?_
    refine va_put (D := D) (ci := 1) (v := .int (nI 5)) (ty := .int) (C := RX1) (T := TX1) (N := 2) hx hb hts iX1_keep_1 tyX1 tyX1_ok nmX1 hown hK hP hD hS 0 rfl rfl 1 (by decide) (hts (.fieldLink RX1 18 "HallSights$History" "size" "I") (List.mem_of_getElem? (i := 1) rfl)) (fun _ h9 => h9) rfl (by decide +kernel) rfl rfl (Nat.le_of_ble_eq_true rfl) dX1_keep_33 (fun H locs hP hD hS => ?_)
    have hP : va_P D vwCl (KWz h kb cI cH (nI 5) (fun i => some (kb i 0)) (q 0) (q 1) (q 2) (q 3) z (q 5) ++ HW b cI z) H := hP
    have hD : va_D (kA w0) (KWz h kb cI cH (nI 5) (fun i => some (kb i 0)) (q 0) (q 1) (q 2) (q 3) z (q 5) ++ HW b cI z) := hD
    have hP : va_P D vwCl (KW h (kbK 4 kb) cI cH (nI (nK 4)) (qK 4 q z) ++ HW b cI z) _ := hP
    have hD : va_D (kA w0) (KW h (kbK 4 kb) cI cH (nI (nK 4)) (qK 4 q z) ++ HW b cI z) := hD
    subst hw0
    exact kq_vret hx hb hrt hlocks hP hD hS dX1_keep_36
  · refine lv_aload_n hx hb dX1_keep_0 rfl (lv_at hl 0 rfl) ?_
    refine va_get (D := D) (ci := 1) (v := .int (nI 5)) (C := RX1) (T := TX1) (N := 2) hx hb hts iX1_keep_1 hown hK hP 0 rfl rfl 1 (by decide) (hts (.fieldLink RX1 18 "HallSights$History" "size" "I") (List.mem_of_getElem? (i := 1) rfl)) (fun _ h9 => h9) rfl dX1_keep_1 ?_
    refine lv_bipush (v := nI 6) hx hb dX1_keep_4 (by decide) ?_
    refine kx_icmp_ne (tgt := 13) hx hb (by omega) (by omega) dX1_keep_6 (by decide) (fun c_6_5 => ?_) (fun c => absurd c (by omega))
    refine lv_aload_n hx hb dX1_keep_13 rfl (lv_at hl 0 rfl) ?_
    refine va_get (D := D) (ci := 1) (v := .ref (h 1)) (C := RX1) (T := TX1) (N := 2) hx hb hts iX1_keep_1 hown hK hP 0 rfl rfl 0 (by decide) (hts (.fieldLink RX1 11 "HallSights$History" "kept" "[LHallSights$Hall;") (List.mem_of_getElem? (i := 2) rfl)) (fun _ h9 => h9) rfl dX1_keep_14 ?_
    refine lv_aload_n hx hb dX1_keep_17 rfl (lv_at hl 0 rfl) ?_
    refine va_get (D := D) (ci := 1) (v := .int (nI 5)) (C := RX1) (T := TX1) (N := 2) hx hb hts iX1_keep_1 hown hK hP 0 rfl rfl 1 (by decide) (hts (.fieldLink RX1 18 "HallSights$History" "size" "I") (List.mem_of_getElem? (i := 1) rfl)) (fun _ h9 => h9) rfl dX1_keep_18 ?_
    refine kx_aldq (v := kb 5 0) hx hb hK hP 1 2 rfl rfl (by decide) (by decide) rfl dX1_keep_21 ?_
    refine lv_aload_n hx hb dX1_keep_22 rfl (lv_at hl 1 rfl) ?_
    refine kw_V (As := [.ref (b 0)]) (rest := []) (C := RX0) (own := RX1) ⟨hx, hb, hml, hown, hts⟩ (c_X0_copyFrom l D cI cC cH cL (kb 5) ((q 5) 3) ((q 5) 4) (fun j => (q 5) (5 + 4 * j)) (fun j => (q 5) (5 + 4 * j + 1)) (fun j => (q 5) (5 + 4 * j + 2)) (fun j => (q 5) (5 + 4 * j + 3)) (fun j => (q 5) (45 + 3 * j)) (fun j => (q 5) (45 + 3 * j + 1)) (fun j => (q 5) (45 + 3 * j + 2)) (q 5) b z  ) (cwV 1 hts gX1_keep_X0_copyFrom rfl rfl rfl k_X0_copyFrom ⟨Nat.le_of_ble_eq_true rfl, Nat.le_of_ble_eq_true rfl⟩) hP hD hK hS [47, 48, 49, 50, 51, 52, 53, 54, 55, 56, 57, 58, 59, 60, 61, 62, 63, 64] (0 :: 1 :: 2 :: 3 :: 4 :: 5 :: 6 :: 7 :: 8 :: 9 :: 10 :: 11 :: 12 :: 13 :: 14 :: 15 :: 16 :: 17 :: 18 :: 19 :: 20 :: 21 :: 22 :: 23 :: 24 :: 25 :: 26 :: 27 :: 28 :: 29 :: 30 :: 31 :: 32 :: 33 :: 34 :: 35 :: 36 :: 37 :: 38 :: 39 :: 40 :: 41 :: 42 :: 43 :: 44 :: 45 :: 46 :: []) rfl rfl (wr := ([(h 0, .inr (1, [.ref (h 1), .int (nI 5)])), (h 1, .inl (cH, 6, .inr (.inr (.inr (.inr (fun i => some (kb i 0)))))))] ++ (HW (kb 0) cI (q 0) ++ (HW (kb 1) cI (q 1) ++ (HW (kb 2) cI (q 2) ++ (HW (kb 3) cI (q 3) ++ (HW (kb 4) cI (q 4)))))))) rfl (by decide) (by decide) (by decide) (va_recv (q := (RX0, TX0, 10)) hK hP (ci := 0) (q0 := 47) rfl rfl) rfl hl.1 rfl (Nat.le_of_ble_eq_true rfl) dX1_keep_23 ⟨Nat.le_of_ble_eq_true rfl, Nat.le_of_ble_eq_true rfl⟩ (fun H locs hP hD hS => ?_)
    have hP : va_P D vwCl (KWz h kb cI cH (nI 5) (fun i => some (kb i 0)) (q 0) (q 1) (q 2) (q 3) (q 4) z ++ HW b cI z) H := hP.sub (0 :: 1 :: 2 :: 3 :: 4 :: 5 :: 6 :: 7 :: 8 :: 9 :: 10 :: 11 :: 12 :: 13 :: 14 :: 15 :: 16 :: 17 :: 18 :: 19 :: 20 :: 21 :: 22 :: 23 :: 24 :: 25 :: 26 :: 27 :: 28 :: 29 :: 30 :: 31 :: 32 :: 33 :: 34 :: 35 :: 36 :: 37 :: 38 :: 39 :: 40 :: 41 :: 42 :: 43 :: 44 :: 45 :: 46 :: 47 :: 48 :: 49 :: 50 :: 51 :: 52 :: 53 :: 54 :: 55 :: 56 :: 57 :: 58 :: 59 :: 60 :: 61 :: 62 :: 63 :: 64 :: []) rfl
    have hD : va_D (kA w0) (KWz h kb cI cH (nI 5) (fun i => some (kb i 0)) (q 0) (q 1) (q 2) (q 3) (q 4) z ++ HW b cI z) := hD.sub (0 :: 1 :: 2 :: 3 :: 4 :: 5 :: 6 :: 7 :: 8 :: 9 :: 10 :: 11 :: 12 :: 13 :: 14 :: 15 :: 16 :: 17 :: 18 :: 19 :: 20 :: 21 :: 22 :: 23 :: 24 :: 25 :: 26 :: 27 :: 28 :: 29 :: 30 :: 31 :: 32 :: 33 :: 34 :: 35 :: 36 :: 37 :: 38 :: 39 :: 40 :: 41 :: 42 :: 43 :: 44 :: 45 :: 46 :: 47 :: 48 :: 49 :: 50 :: 51 :: 52 :: 53 :: 54 :: 55 :: 56 :: 57 :: 58 :: 59 :: 60 :: 61 :: 62 :: 63 :: 64 :: []) (by decide) rfl
    refine lv_aload_n hx hb dX1_keep_26 rfl (lv_at hl 0 rfl) ?_
    refine lv_dup hx hb dX1_keep_27 rfl ?_
    refine va_get (D := D) (ci := 1) (v := .int (nI 5)) (C := RX1) (T := TX1) (N := 2) hx hb hts iX1_keep_1 hown hK hP 0 rfl rfl 1 (by decide) (hts (.fieldLink RX1 18 "HallSights$History" "size" "I") (List.mem_of_getElem? (i := 1) rfl)) (fun _ h9 => h9) rfl dX1_keep_28 ?_
    refine lv_iconst (v := nI 1) hx hb dX1_keep_31 (by decide) ?_
    refine kx_iadd hx hb dX1_keep_32 ?_
    refine va_put (D := D) (ci := 1) (v := .int (nI 6)) (ty := .int) (C := RX1) (T := TX1) (N := 2) hx hb hts iX1_keep_1 tyX1 tyX1_ok nmX1 hown hK hP hD hS 0 rfl rfl 1 (by decide) (hts (.fieldLink RX1 18 "HallSights$History" "size" "I") (List.mem_of_getElem? (i := 1) rfl)) (fun _ h9 => h9) rfl (by decide +kernel) rfl rfl (Nat.le_of_ble_eq_true rfl) dX1_keep_33 (fun H locs hP hD hS => ?_)
    have hP : va_P D vwCl (KWz h kb cI cH (nI 6) (fun i => some (kb i 0)) (q 0) (q 1) (q 2) (q 3) (q 4) z ++ HW b cI z) H := hP
    have hD : va_D (kA w0) (KWz h kb cI cH (nI 6) (fun i => some (kb i 0)) (q 0) (q 1) (q 2) (q 3) (q 4) z ++ HW b cI z) := hD
    have hP : va_P D vwCl (KW h (kbK 5 kb) cI cH (nI (nK 5)) (qK 5 q z) ++ HW b cI z) _ := hP
    have hD : va_D (kA w0) (KW h (kbK 5 kb) cI cH (nI (nK 5)) (qK 5 q z) ++ HW b cI z) := hD
    subst hw0
    exact kq_vret hx hb hrt hlocks hP hD hS dX1_keep_36
  · refine lv_aload_n hx hb dX1_keep_0 rfl (lv_at hl 0 rfl) ?_
    refine va_get (D := D) (ci := 1) (v := .int (nI 6)) (C := RX1) (T := TX1) (N := 2) hx hb hts iX1_keep_1 hown hK hP 0 rfl rfl 1 (by decide) (hts (.fieldLink RX1 18 "HallSights$History" "size" "I") (List.mem_of_getElem? (i := 1) rfl)) (fun _ h9 => h9) rfl dX1_keep_1 ?_
    refine lv_bipush (v := nI 6) hx hb dX1_keep_4 (by decide) ?_
    refine kx_icmp_ne (tgt := 13) hx hb (by omega) (by omega) dX1_keep_6 (by decide) (fun c => absurd c (by omega)) (fun c_6_6 => ?_)
    refine lv_aload_n hx hb dX1_keep_9 rfl (lv_at hl 0 rfl) ?_
    refine kw_V (As := []) (rest := []) (C := RX1) (own := RX1) ⟨hx, hb, hml, hown, hts⟩ (c_X1_dropOldest l D cI cC cH cL h kb 6 q  (by first | assumption | omega)) (cwV 0 hts gX1_keep_X1_dropOldest rfl rfl rfl k_X1_dropOldest ⟨Nat.le_of_ble_eq_true rfl, Nat.le_of_ble_eq_true rfl⟩) hP hD hK hS (0 :: 1 :: 2 :: 3 :: 4 :: 5 :: 6 :: 7 :: 8 :: 9 :: 10 :: 11 :: 12 :: 13 :: 14 :: 15 :: 16 :: 17 :: 18 :: 19 :: 20 :: 21 :: 22 :: 23 :: 24 :: 25 :: 26 :: 27 :: 28 :: 29 :: 30 :: 31 :: 32 :: 33 :: 34 :: 35 :: 36 :: 37 :: 38 :: 39 :: 40 :: 41 :: 42 :: 43 :: 44 :: 45 :: 46 :: 47 :: 48 :: 49 :: 50 :: 51 :: 52 :: 53 :: 54 :: 55 :: []) [56, 57, 58, 59, 60, 61, 62, 63, 64] rfl rfl (wr := (HW b cI z)) rfl (by decide) (by decide) (by decide) (va_recv (q := (RX1, TX1, 2)) hK hP (ci := 1) (q0 := 0) rfl rfl) rfl hl.1 rfl (Nat.le_of_ble_eq_true rfl) dX1_keep_10 ⟨Nat.le_of_ble_eq_true rfl, Nat.le_of_ble_eq_true rfl⟩ (fun H locs hP hD hS => ?_)
    have hP : va_P D vwCl (KWz h (rot kb) cI cH (nI 5) (fun i => some ((rot kb) i 0)) (rot q 0) (rot q 1) (rot q 2) (rot q 3) (rot q 4) (rot q 5) ++ HW b cI z) H := hP.sub (9 :: 10 :: 11 :: 12 :: 13 :: 14 :: 15 :: 16 :: 17 :: 18 :: 19 :: 20 :: 21 :: 22 :: 23 :: 24 :: 25 :: 26 :: 27 :: 28 :: 29 :: 30 :: 31 :: 32 :: 33 :: 34 :: 35 :: 36 :: 37 :: 38 :: 39 :: 40 :: 41 :: 42 :: 43 :: 44 :: 45 :: 46 :: 47 :: 48 :: 49 :: 50 :: 51 :: 52 :: 53 :: 54 :: 55 :: 56 :: 57 :: 58 :: 59 :: 60 :: 61 :: 62 :: 63 :: 64 :: 0 :: 1 :: 2 :: 3 :: 4 :: 5 :: 6 :: 7 :: 8 :: []) rfl
    have hD : va_D (kA w0) (KWz h (rot kb) cI cH (nI 5) (fun i => some ((rot kb) i 0)) (rot q 0) (rot q 1) (rot q 2) (rot q 3) (rot q 4) (rot q 5) ++ HW b cI z) := hD.sub (9 :: 10 :: 11 :: 12 :: 13 :: 14 :: 15 :: 16 :: 17 :: 18 :: 19 :: 20 :: 21 :: 22 :: 23 :: 24 :: 25 :: 26 :: 27 :: 28 :: 29 :: 30 :: 31 :: 32 :: 33 :: 34 :: 35 :: 36 :: 37 :: 38 :: 39 :: 40 :: 41 :: 42 :: 43 :: 44 :: 45 :: 46 :: 47 :: 48 :: 49 :: 50 :: 51 :: 52 :: 53 :: 54 :: 55 :: 56 :: 57 :: 58 :: 59 :: 60 :: 61 :: 62 :: 63 :: 64 :: 0 :: 1 :: 2 :: 3 :: 4 :: 5 :: 6 :: 7 :: 8 :: []) (by decide) rfl
    refine lv_aload_n hx hb dX1_keep_13 rfl (lv_at hl 0 rfl) ?_
    refine va_get (D := D) (ci := 1) (v := .ref (h 1)) (C := RX1) (T := TX1) (N := 2) hx hb hts iX1_keep_1 hown hK hP 0 rfl rfl 0 (by decide) (hts (.fieldLink RX1 11 "HallSights$History" "kept" "[LHallSights$Hall;") (List.mem_of_getElem? (i := 2) rfl)) (fun _ h9 => h9) rfl dX1_keep_14 ?_
    refine lv_aload_n hx hb dX1_keep_17 rfl (lv_at hl 0 rfl) ?_
    refine va_get (D := D) (ci := 1) (v := .int (nI 5)) (C := RX1) (T := TX1) (N := 2) hx hb hts iX1_keep_1 hown hK hP 0 rfl rfl 1 (by decide) (hts (.fieldLink RX1 18 "HallSights$History" "size" "I") (List.mem_of_getElem? (i := 1) rfl)) (fun _ h9 => h9) rfl dX1_keep_18 ?_
    refine kx_aldq (v := (rot kb) 5 0) hx hb hK hP 1 2 rfl rfl (by decide) (by decide) rfl dX1_keep_21 ?_
    refine lv_aload_n hx hb dX1_keep_22 rfl (lv_at hl 1 rfl) ?_
    refine kw_V (As := [.ref (b 0)]) (rest := []) (C := RX0) (own := RX1) ⟨hx, hb, hml, hown, hts⟩ (c_X0_copyFrom l D cI cC cH cL ((rot kb) 5) ((rot q 5) 3) ((rot q 5) 4) (fun j => (rot q 5) (5 + 4 * j)) (fun j => (rot q 5) (5 + 4 * j + 1)) (fun j => (rot q 5) (5 + 4 * j + 2)) (fun j => (rot q 5) (5 + 4 * j + 3)) (fun j => (rot q 5) (45 + 3 * j)) (fun j => (rot q 5) (45 + 3 * j + 1)) (fun j => (rot q 5) (45 + 3 * j + 2)) (rot q 5) b z  ) (cwV 1 hts gX1_keep_X0_copyFrom rfl rfl rfl k_X0_copyFrom ⟨Nat.le_of_ble_eq_true rfl, Nat.le_of_ble_eq_true rfl⟩) hP hD hK hS [47, 48, 49, 50, 51, 52, 53, 54, 55, 56, 57, 58, 59, 60, 61, 62, 63, 64] (0 :: 1 :: 2 :: 3 :: 4 :: 5 :: 6 :: 7 :: 8 :: 9 :: 10 :: 11 :: 12 :: 13 :: 14 :: 15 :: 16 :: 17 :: 18 :: 19 :: 20 :: 21 :: 22 :: 23 :: 24 :: 25 :: 26 :: 27 :: 28 :: 29 :: 30 :: 31 :: 32 :: 33 :: 34 :: 35 :: 36 :: 37 :: 38 :: 39 :: 40 :: 41 :: 42 :: 43 :: 44 :: 45 :: 46 :: []) rfl rfl (wr := ([(h 0, .inr (1, [.ref (h 1), .int (nI 5)])), (h 1, .inl (cH, 6, .inr (.inr (.inr (.inr (fun i => some ((rot kb) i 0)))))))] ++ (HW ((rot kb) 0) cI (rot q 0) ++ (HW ((rot kb) 1) cI (rot q 1) ++ (HW ((rot kb) 2) cI (rot q 2) ++ (HW ((rot kb) 3) cI (rot q 3) ++ (HW ((rot kb) 4) cI (rot q 4)))))))) rfl (by decide) (by decide) (by decide) (va_recv (q := (RX0, TX0, 10)) hK hP (ci := 0) (q0 := 47) rfl rfl) rfl hl.1 rfl (Nat.le_of_ble_eq_true rfl) dX1_keep_23 ⟨Nat.le_of_ble_eq_true rfl, Nat.le_of_ble_eq_true rfl⟩ (fun H locs hP hD hS => ?_)
    have hP : va_P D vwCl (KWz h (rot kb) cI cH (nI 5) (fun i => some ((rot kb) i 0)) (rot q 0) (rot q 1) (rot q 2) (rot q 3) (rot q 4) z ++ HW b cI z) H := hP.sub (0 :: 1 :: 2 :: 3 :: 4 :: 5 :: 6 :: 7 :: 8 :: 9 :: 10 :: 11 :: 12 :: 13 :: 14 :: 15 :: 16 :: 17 :: 18 :: 19 :: 20 :: 21 :: 22 :: 23 :: 24 :: 25 :: 26 :: 27 :: 28 :: 29 :: 30 :: 31 :: 32 :: 33 :: 34 :: 35 :: 36 :: 37 :: 38 :: 39 :: 40 :: 41 :: 42 :: 43 :: 44 :: 45 :: 46 :: 47 :: 48 :: 49 :: 50 :: 51 :: 52 :: 53 :: 54 :: 55 :: 56 :: 57 :: 58 :: 59 :: 60 :: 61 :: 62 :: 63 :: 64 :: []) rfl
    have hD : va_D (kA w0) (KWz h (rot kb) cI cH (nI 5) (fun i => some ((rot kb) i 0)) (rot q 0) (rot q 1) (rot q 2) (rot q 3) (rot q 4) z ++ HW b cI z) := hD.sub (0 :: 1 :: 2 :: 3 :: 4 :: 5 :: 6 :: 7 :: 8 :: 9 :: 10 :: 11 :: 12 :: 13 :: 14 :: 15 :: 16 :: 17 :: 18 :: 19 :: 20 :: 21 :: 22 :: 23 :: 24 :: 25 :: 26 :: 27 :: 28 :: 29 :: 30 :: 31 :: 32 :: 33 :: 34 :: 35 :: 36 :: 37 :: 38 :: 39 :: 40 :: 41 :: 42 :: 43 :: 44 :: 45 :: 46 :: 47 :: 48 :: 49 :: 50 :: 51 :: 52 :: 53 :: 54 :: 55 :: 56 :: 57 :: 58 :: 59 :: 60 :: 61 :: 62 :: 63 :: 64 :: []) (by decide) rfl
    refine lv_aload_n hx hb dX1_keep_26 rfl (lv_at hl 0 rfl) ?_
    refine lv_dup hx hb dX1_keep_27 rfl ?_
    refine va_get (D := D) (ci := 1) (v := .int (nI 5)) (C := RX1) (T := TX1) (N := 2) hx hb hts iX1_keep_1 hown hK hP 0 rfl rfl 1 (by decide) (hts (.fieldLink RX1 18 "HallSights$History" "size" "I") (List.mem_of_getElem? (i := 1) rfl)) (fun _ h9 => h9) rfl dX1_keep_28 ?_
    refine lv_iconst (v := nI 1) hx hb dX1_keep_31 (by decide) ?_
    refine kx_iadd hx hb dX1_keep_32 ?_
    refine va_put (D := D) (ci := 1) (v := .int (nI 6)) (ty := .int) (C := RX1) (T := TX1) (N := 2) hx hb hts iX1_keep_1 tyX1 tyX1_ok nmX1 hown hK hP hD hS 0 rfl rfl 1 (by decide) (hts (.fieldLink RX1 18 "HallSights$History" "size" "I") (List.mem_of_getElem? (i := 1) rfl)) (fun _ h9 => h9) rfl (by decide +kernel) rfl rfl (Nat.le_of_ble_eq_true rfl) dX1_keep_33 (fun H locs hP hD hS => ?_)
    have hP : va_P D vwCl (KWz h (rot kb) cI cH (nI 6) (fun i => some ((rot kb) i 0)) (rot q 0) (rot q 1) (rot q 2) (rot q 3) (rot q 4) z ++ HW b cI z) H := hP
    have hD : va_D (kA w0) (KWz h (rot kb) cI cH (nI 6) (fun i => some ((rot kb) i 0)) (rot q 0) (rot q 1) (rot q 2) (rot q 3) (rot q 4) z ++ HW b cI z) := hD
    have hP : va_P D vwCl (KW h (kbK 6 kb) cI cH (nI (nK 6)) (qK 6 q z) ++ HW b cI z) _ := hP
    have hD : va_D (kA w0) (KW h (kbK 6 kb) cI cH (nI (nK 6)) (qK 6 q z) ++ HW b cI z) := hD
    subst hw0
    exact kq_vret hx hb hrt hlocks hP hD hS dX1_keep_36
