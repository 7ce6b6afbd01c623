theorem k_X0_longestFree : yX0_longestFree.cls = RX0 ∧ yX0_longestFree.cls ≠ "java/lang/invoke/MethodHandle" ∧ yX0_longestFree.cls ≠ "java/lang/invoke/VarHandle" ∧ (parseMethodDescriptor yX0_longestFree.desc).map (fun d => d.parameters.length) = some 0 := by decide +kernel
theorem k_X0_longestFreeS : yX0_longestFree.cls ≠ "java/lang/invoke/MethodHandle" ∧ yX0_longestFree.cls ≠ "java/lang/invoke/VarHandle" ∧ (parseMethodDescriptor yX0_longestFree.desc).map (fun d => d.parameters.length) = some 0 := k_X0_longestFree.2
theorem k_X0_seatsBehindColumn : yX0_seatsBehindColumn.cls = RX0 ∧ yX0_seatsBehindColumn.cls ≠ "java/lang/invoke/MethodHandle" ∧ yX0_seatsBehindColumn.cls ≠ "java/lang/invoke/VarHandle" ∧ (parseMethodDescriptor yX0_seatsBehindColumn.desc).map (fun d => d.parameters.length) = some 1 := by decide +kernel
theorem k_X0_seatsBehindColumnS : yX0_seatsBehindColumn.cls ≠ "java/lang/invoke/MethodHandle" ∧ yX0_seatsBehindColumn.cls ≠ "java/lang/invoke/VarHandle" ∧ (parseMethodDescriptor yX0_seatsBehindColumn.desc).map (fun d => d.parameters.length) = some 1 := k_X0_seatsBehindColumn.2
theorem k_X0_seatsInAll : yX0_seatsInAll.cls = RX0 ∧ yX0_seatsInAll.cls ≠ "java/lang/invoke/MethodHandle" ∧ yX0_seatsInAll.cls ≠ "java/lang/invoke/VarHandle" ∧ (parseMethodDescriptor yX0_seatsInAll.desc).map (fun d => d.parameters.length) = some 0 := by decide +kernel
theorem k_X0_seatsInAllS : yX0_seatsInAll.cls ≠ "java/lang/invoke/MethodHandle" ∧ yX0_seatsInAll.cls ≠ "java/lang/invoke/VarHandle" ∧ (parseMethodDescriptor yX0_seatsInAll.desc).map (fun d => d.parameters.length) = some 0 := k_X0_seatsInAll.2
theorem k_X0_takenBehind : yX0_takenBehind.cls = RX0 ∧ yX0_takenBehind.cls ≠ "java/lang/invoke/MethodHandle" ∧ yX0_takenBehind.cls ≠ "java/lang/invoke/VarHandle" ∧ (parseMethodDescriptor yX0_takenBehind.desc).map (fun d => d.parameters.length) = some 2 := by decide +kernel
theorem k_X0_takenBehindS : yX0_takenBehind.cls ≠ "java/lang/invoke/MethodHandle" ∧ yX0_takenBehind.cls ≠ "java/lang/invoke/VarHandle" ∧ (parseMethodDescriptor yX0_takenBehind.desc).map (fun d => d.parameters.length) = some 2 := k_X0_takenBehind.2
theorem k_X0_takenInAll : yX0_takenInAll.cls = RX0 ∧ yX0_takenInAll.cls ≠ "java/lang/invoke/MethodHandle" ∧ yX0_takenInAll.cls ≠ "java/lang/invoke/VarHandle" ∧ (parseMethodDescriptor yX0_takenInAll.desc).map (fun d => d.parameters.length) = some 0 := by decide +kernel
theorem k_X0_takenInAllS : yX0_takenInAll.cls ≠ "java/lang/invoke/MethodHandle" ∧ yX0_takenInAll.cls ≠ "java/lang/invoke/VarHandle" ∧ (parseMethodDescriptor yX0_takenInAll.desc).map (fun d => d.parameters.length) = some 0 := k_X0_takenInAll.2
theorem k_X3_pairsInWay : yX3_pairsInWay.cls = RX3 ∧ yX3_pairsInWay.cls ≠ "java/lang/invoke/MethodHandle" ∧ yX3_pairsInWay.cls ≠ "java/lang/invoke/VarHandle" ∧ (parseMethodDescriptor yX3_pairsInWay.desc).map (fun d => d.parameters.length) = some 0 := by decide +kernel
theorem k_X3_pairsInWayS : yX3_pairsInWay.cls ≠ "java/lang/invoke/MethodHandle" ∧ yX3_pairsInWay.cls ≠ "java/lang/invoke/VarHandle" ∧ (parseMethodDescriptor yX3_pairsInWay.desc).map (fun d => d.parameters.length) = some 0 := k_X3_pairsInWay.2
theorem k_X3_placeOf : yX3_placeOf.cls = RX3 ∧ yX3_placeOf.cls ≠ "java/lang/invoke/MethodHandle" ∧ yX3_placeOf.cls ≠ "java/lang/invoke/VarHandle" ∧ (parseMethodDescriptor yX3_placeOf.desc).map (fun d => d.parameters.length) = some 3 := by decide +kernel
theorem k_X3_placeOfS : yX3_placeOf.cls ≠ "java/lang/invoke/MethodHandle" ∧ yX3_placeOf.cls ≠ "java/lang/invoke/VarHandle" ∧ (parseMethodDescriptor yX3_placeOf.desc).map (fun d => d.parameters.length) = some 3 := k_X3_placeOf.2
theorem k_X3_seeing : yX3_seeing.cls = RX3 ∧ yX3_seeing.cls ≠ "java/lang/invoke/MethodHandle" ∧ yX3_seeing.cls ≠ "java/lang/invoke/VarHandle" ∧ (parseMethodDescriptor yX3_seeing.desc).map (fun d => d.parameters.length) = some 0 := by decide +kernel
theorem k_X3_seeingS : yX3_seeing.cls ≠ "java/lang/invoke/MethodHandle" ∧ yX3_seeing.cls ≠ "java/lang/invoke/VarHandle" ∧ (parseMethodDescriptor yX3_seeing.desc).map (fun d => d.parameters.length) = some 0 := k_X3_seeing.2
theorem k_X3_takenSeeing : yX3_takenSeeing.cls = RX3 ∧ yX3_takenSeeing.cls ≠ "java/lang/invoke/MethodHandle" ∧ yX3_takenSeeing.cls ≠ "java/lang/invoke/VarHandle" ∧ (parseMethodDescriptor yX3_takenSeeing.desc).map (fun d => d.parameters.length) = some 0 := by decide +kernel
theorem k_X3_takenSeeingS : yX3_takenSeeing.cls ≠ "java/lang/invoke/MethodHandle" ∧ yX3_takenSeeing.cls ≠ "java/lang/invoke/VarHandle" ∧ (parseMethodDescriptor yX3_takenSeeing.desc).map (fun d => d.parameters.length) = some 0 := k_X3_takenSeeing.2
set_option maxRecDepth 20000 in
theorem iX4_rowProperty_0 : ∀ w ∈ wsX00, w ∈ wsX4_rowProperty := by decide +kernel
set_option maxRecDepth 20000 in
theorem iX4_rowProperty_4 : ∀ w ∈ wsX40, w ∈ wsX4_rowProperty := by decide +kernel
set_option maxHeartbeats 4000000 in
set_option maxRecDepth 100000 in
theorem c_X4_rowProperty (l : Launch) (D : va_G) (cI cC cH cL : ClassId) (x b v u o h t : Nat → Nat) (z : ZZ) (lk : Bool) (pe cn rk : ZZ) (r0 : Nat) (wh : Nat) (hw : WF z) (hv : VT z) (hr : r0 < nR z) (hwh : wh < 6) (hL : LKR z pe cn rk) : Met l yX4_rowProperty wsX4_rowProperty ({ frames := 4, cells := 0, slots := 0, locals := 89 }) (kp [.ref (x 0), .int (nI r0), .int (nI wh)] D ([(x 0, .inr (4, [.ref (v 0), .ref (b 0), .ref (o 0), .ref (h 0), .ref (t 0)]))] ++ (HW b cI z ++ (SW v (b 0) cI (bI lk) pe cn rk))) (kT cI cC cH cL)) (kr (.returned (some (.int (rowNowI z r0 wh))))) 0 0 (fun _ => False) := by
  refine Met.ofW (cc := cX4_rowProperty) (maxL := 3) (ret := (some .int)) (by decide) rfl ?_
  intro p e s m args below meth c s₁ B hml hv
  obtain ⟨rfl, hP, hK⟩ := hv
  have hx := B.exec
  have hb := B.bytes
  have hrt := B.returns
  have hts := atoms_spec (ws := wsX4_rowProperty) B.pre
  have hown : s.vm.findClass RX4 = some m.cls := findClass_of_methodNamed B.named
  have hlocks := B.notSynchronized
  have hl := lv_entry ([.ref (x 0), .int (nI r0), .int (nI wh)]) (n := 3) (Nat.le_of_ble_eq_true rfl)
  rw [lg_entry_eq]
  generalize (lg_sl ([.ref (x 0), .int (nI r0), .int (nI wh)]) ++ List.replicate (3 - (lg_sl ([.ref (x 0), .int (nI r0), .int (nI wh)])).length) Slot.unset).toArray = ls at hl ⊢
  have hl : lv_has ls 3 [(0, .ref (x 0)), (1, .int (nI r0)), (2, .int (nI wh))] := hl
  have hR10 := wf_R10 hw
  have hC4 := wf_C4 hw
  rcases (show wh = 0 ∨ wh = 1 ∨ wh = 2 ∨ wh = 3 ∨ wh = 4 ∨ wh = 5 by omega) with rfl | rfl | rfl | rfl | rfl | rfl
  · refine lv_iload_n hx hb dX4_rowProperty_0 rfl (lv_at hl 2 rfl) ?_
    refine lv_tableIn (tgt := 36) (off := 35) hx hb dX4_rowProperty_1 (by decide) (by decide) (by decide) (by decide) ?_
    refine lv_aload_n hx hb dX4_rowProperty_36 rfl (lv_at hl 0 rfl) ?_
    refine va_get (D := D) (ci := 4) (v := .ref (b 0)) (C := RX4) (T := TX4) (N := 5) hx hb hts iX4_rowProperty_4 hown hK hP 0 rfl rfl 1 (by decide) (hts (.fieldLink RX4 20 "HallSights" "hall" "LHallSights$Hall;") (List.mem_of_getElem? (i := 1) rfl)) (fun _ h9 => h9) rfl dX4_rowProperty_37 ?_
    refine va_get (D := D) (ci := 0) (v := .ref (b 1)) (C := RX0) (T := TX0) (N := 10) hx hb hts iX4_rowProperty_0 hown hK hP 1 rfl rfl 1 (by decide) (hts (.fieldLink RX4 281 "HallSights$Hall" "distances" "[I") (List.mem_of_getElem? (i := 2) rfl)) (fun _ h9 => h9) rfl dX4_rowProperty_40 ?_
    refine lv_iload_n hx hb dX4_rowProperty_43 rfl (lv_at hl 1 rfl) ?_
    refine kx_iald hx hb hK hP 2 0 rfl rfl (by omega) (by decide) dX4_rowProperty_44 ?_
    have e_0 : (z (5 + 4 * r0) : Int32) = (rowNowI z r0 0) := by first | rfl | omega | (simp [rowNowI, Int32.not_lt, Int32.not_le]; done) | (simp [rowNowI, Int32.not_lt, Int32.not_le]; omega)
    exact kr_iret hx hb hrt hlocks e_0 rfl dX4_rowProperty_45
  · refine lv_iload_n hx hb dX4_rowProperty_0 rfl (lv_at hl 2 rfl) ?_
    refine lv_tableIn (tgt := 46) (off := 45) hx hb dX4_rowProperty_1 (by decide) (by decide) (by decide) (by decide) ?_
    refine lv_aload_n hx hb dX4_rowProperty_46 rfl (lv_at hl 0 rfl) ?_
    refine va_get (D := D) (ci := 4) (v := .ref (b 0)) (C := RX4) (T := TX4) (N := 5) hx hb hts iX4_rowProperty_4 hown hK hP 0 rfl rfl 1 (by decide) (hts (.fieldLink RX4 20 "HallSights" "hall" "LHallSights$Hall;") (List.mem_of_getElem? (i := 1) rfl)) (fun _ h9 => h9) rfl dX4_rowProperty_47 ?_
    refine va_get (D := D) (ci := 0) (v := .ref (b 2)) (C := RX0) (T := TX0) (N := 10) hx hb hts iX4_rowProperty_0 hown hK hP 1 rfl rfl 2 (by decide) (hts (.fieldLink RX4 79 "HallSights$Hall" "heights" "[I") (List.mem_of_getElem? (i := 3) rfl)) (fun _ h9 => h9) rfl dX4_rowProperty_50 ?_
    refine lv_iload_n hx hb dX4_rowProperty_53 rfl (lv_at hl 1 rfl) ?_
    refine kx_iald hx hb hK hP 3 0 rfl rfl (by omega) (by decide) dX4_rowProperty_54 ?_
    have e_1 : (z (5 + 4 * r0 + 1) : Int32) = (rowNowI z r0 1) := by first | rfl | omega | (simp [rowNowI, Int32.not_lt, Int32.not_le]; done) | (simp [rowNowI, Int32.not_lt, Int32.not_le]; omega)
    exact kr_iret hx hb hrt hlocks e_1 rfl dX4_rowProperty_55
  · refine lv_iload_n hx hb dX4_rowProperty_0 rfl (lv_at hl 2 rfl) ?_
    refine lv_tableIn (tgt := 56) (off := 55) hx hb dX4_rowProperty_1 (by decide) (by decide) (by decide) (by decide) ?_
    refine lv_aload_n hx hb dX4_rowProperty_56 rfl (lv_at hl 0 rfl) ?_
    refine va_get (D := D) (ci := 4) (v := .ref (b 0)) (C := RX4) (T := TX4) (N := 5) hx hb hts iX4_rowProperty_4 hown hK hP 0 rfl rfl 1 (by decide) (hts (.fieldLink RX4 20 "HallSights" "hall" "LHallSights$Hall;") (List.mem_of_getElem? (i := 1) rfl)) (fun _ h9 => h9) rfl dX4_rowProperty_57 ?_
    refine va_get (D := D) (ci := 0) (v := .ref (b 3)) (C := RX0) (T := TX0) (N := 10) hx hb hts iX4_rowProperty_0 hown hK hP 1 rfl rfl 3 (by decide) (hts (.fieldLink RX4 268 "HallSights$Hall" "seats" "[I") (List.mem_of_getElem? (i := 4) rfl)) (fun _ h9 => h9) rfl dX4_rowProperty_60 ?_
    refine lv_iload_n hx hb dX4_rowProperty_63 rfl (lv_at hl 1 rfl) ?_
    refine kx_iald hx hb hK hP 4 0 rfl rfl (by omega) (by decide) dX4_rowProperty_64 ?_
    refine kx_top (wf_S hw (show (r0) < nR z by omega)) ?_
    have hS12_2 := wf_S12 hw (show (r0) < nR z by omega)
    have e_3 : (nI (nS z (r0)) : Int32) = (rowNowI z r0 2) := by first | rfl | omega | (simp [rowNowI, Int32.not_lt, Int32.not_le]; done) | (simp [rowNowI, Int32.not_lt, Int32.not_le]; omega)
    exact kr_iret hx hb hrt hlocks e_3 rfl dX4_rowProperty_65
  · refine lv_iload_n hx hb dX4_rowProperty_0 rfl (lv_at hl 2 rfl) ?_
    refine lv_tableIn (tgt := 66) (off := 65) hx hb dX4_rowProperty_1 (by decide) (by decide) (by decide) (by decide) ?_
    refine lv_aload_n hx hb dX4_rowProperty_66 rfl (lv_at hl 0 rfl) ?_
    refine va_get (D := D) (ci := 4) (v := .ref (b 0)) (C := RX4) (T := TX4) (N := 5) hx hb hts iX4_rowProperty_4 hown hK hP 0 rfl rfl 1 (by decide) (hts (.fieldLink RX4 20 "HallSights" "hall" "LHallSights$Hall;") (List.mem_of_getElem? (i := 1) rfl)) (fun _ h9 => h9) rfl dX4_rowProperty_67 ?_
    refine lv_iload_n hx hb dX4_rowProperty_70 rfl (lv_at hl 1 rfl) ?_
    refine kr_V (As := [.int (nI r0)]) (rest := []) (C := RX0) (own := RX4) ⟨hx, hb, hml, hown, hts⟩ (c_X0_takenInRow l D cI cC cH cL b z r0 (by first | assumption | omega) (by first | assumption | omega) (by first | assumption | omega)) (cwV 1 hts gX4_rowProperty_X0_takenInRow rfl rfl rfl k_X0_takenInRow ⟨Nat.le_of_ble_eq_true rfl, Nat.le_of_ble_eq_true rfl⟩) (hP.sub (ws' := (HW b cI z)) [1, 2, 3, 4, 5, 6, 7, 8, 9] rfl) hK (va_recv (q := (RX0, TX0, 10)) hK hP (ci := 0) (q0 := 1) rfl rfl) rfl hl.1 rfl (Nat.le_of_ble_eq_true rfl) dX4_rowProperty_71 ⟨Nat.le_of_ble_eq_true rfl, Nat.le_of_ble_eq_true rfl⟩ ?_
    have e_4 : (nI (takenIn z r0) : Int32) = (rowNowI z r0 3) := by first | rfl | omega | (simp [rowNowI, Int32.not_lt, Int32.not_le]; done) | (simp [rowNowI, Int32.not_lt, Int32.not_le]; omega)
    exact kr_iret hx hb hrt hlocks e_4 rfl dX4_rowProperty_74
  · refine lv_iload_n hx hb dX4_rowProperty_0 rfl (lv_at hl 2 rfl) ?_
    refine lv_tableIn (tgt := 75) (off := 74) hx hb dX4_rowProperty_1 (by decide) (by decide) (by decide) (by decide) ?_
    refine lv_aload_n hx hb dX4_rowProperty_75 rfl (lv_at hl 0 rfl) ?_
    refine va_get (D := D) (ci := 4) (v := .ref (v 0)) (C := RX4) (T := TX4) (N := 5) hx hb hts iX4_rowProperty_4 hown hK hP 0 rfl rfl 0 (by decide) (hts (.fieldLink RX4 10 "HallSights" "survey" "LHallSights$Survey;") (List.mem_of_getElem? (i := 5) rfl)) (fun _ h9 => h9) rfl dX4_rowProperty_76 ?_
    refine lv_iload_n hx hb dX4_rowProperty_79 rfl (lv_at hl 1 rfl) ?_
    refine kr_V (As := [.int (nI r0)]) (rest := []) (C := RX3) (own := RX4) ⟨hx, hb, hml, hown, hts⟩ (c_X3_seeingInRow l D cI cC cH cL v b z lk pe cn rk r0 (by first | assumption | omega) (by first | assumption | omega) (by first | assumption | omega)) (cwV 1 hts gX4_rowProperty_X3_seeingInRow rfl rfl rfl k_X3_seeingInRow ⟨Nat.le_of_ble_eq_true rfl, Nat.le_of_ble_eq_true rfl⟩) (hP.sub (ws' := (HW b cI z ++ SW v (b 0) cI (bI lk) pe cn rk)) [1, 2, 3, 4, 5, 6, 7, 8, 9, 10, 11, 12, 13] rfl) hK (va_recv (q := (RX3, TX3, 5)) hK hP (ci := 3) (q0 := 10) rfl rfl) rfl hl.1 rfl (Nat.le_of_ble_eq_true rfl) dX4_rowProperty_80 ⟨Nat.le_of_ble_eq_true rfl, Nat.le_of_ble_eq_true rfl⟩ ?_
    have e_5 : (nI (seeIn z r0 false) : Int32) = (rowNowI z r0 4) := by first | rfl | omega | (simp [rowNowI, Int32.not_lt, Int32.not_le]; done) | (simp [rowNowI, Int32.not_lt, Int32.not_le]; omega)
    exact kr_iret hx hb hrt hlocks e_5 rfl dX4_rowProperty_83
  · refine lv_iload_n hx hb dX4_rowProperty_0 rfl (lv_at hl 2 rfl) ?_
    refine lv_tableOut (tgt := 84) hx hb dX4_rowProperty_1 (by decide) (by decide) ?_
    refine lv_iload_n hx hb dX4_rowProperty_84 rfl (lv_at hl 1 rfl) ?_
    refine kx_if_ne (tgt := 100) hx hb (by omega) dX4_rowProperty_85 (by decide) (fun c_85_6 => ?_) (fun c_85_7 => ?_)
    · refine lv_aload_n hx hb dX4_rowProperty_100 rfl (lv_at hl 0 rfl) ?_
      refine va_get (D := D) (ci := 4) (v := .ref (b 0)) (C := RX4) (T := TX4) (N := 5) hx hb hts iX4_rowProperty_4 hown hK hP 0 rfl rfl 1 (by decide) (hts (.fieldLink RX4 20 "HallSights" "hall" "LHallSights$Hall;") (List.mem_of_getElem? (i := 1) rfl)) (fun _ h9 => h9) rfl dX4_rowProperty_101 ?_
      refine va_get (D := D) (ci := 0) (v := .ref (b 2)) (C := RX0) (T := TX0) (N := 10) hx hb hts iX4_rowProperty_0 hown hK hP 1 rfl rfl 2 (by decide) (hts (.fieldLink RX4 79 "HallSights$Hall" "heights" "[I") (List.mem_of_getElem? (i := 3) rfl)) (fun _ h9 => h9) rfl dX4_rowProperty_104 ?_
      refine lv_iload_n hx hb dX4_rowProperty_107 rfl (lv_at hl 1 rfl) ?_
      refine kx_iald hx hb hK hP 3 0 rfl rfl (by omega) (by decide) dX4_rowProperty_108 ?_
      refine lv_aload_n hx hb dX4_rowProperty_109 rfl (lv_at hl 0 rfl) ?_
      refine va_get (D := D) (ci := 4) (v := .ref (b 0)) (C := RX4) (T := TX4) (N := 5) hx hb hts iX4_rowProperty_4 hown hK hP 0 rfl rfl 1 (by decide) (hts (.fieldLink RX4 20 "HallSights" "hall" "LHallSights$Hall;") (List.mem_of_getElem? (i := 1) rfl)) (fun _ h9 => h9) rfl dX4_rowProperty_110 ?_
      refine va_get (D := D) (ci := 0) (v := .ref (b 2)) (C := RX0) (T := TX0) (N := 10) hx hb hts iX4_rowProperty_0 hown hK hP 1 rfl rfl 2 (by decide) (hts (.fieldLink RX4 79 "HallSights$Hall" "heights" "[I") (List.mem_of_getElem? (i := 3) rfl)) (fun _ h9 => h9) rfl dX4_rowProperty_113 ?_
      refine lv_iload_n hx hb dX4_rowProperty_116 rfl (lv_at hl 1 rfl) ?_
      refine lv_iconst (v := nI 1) hx hb dX4_rowProperty_117 (by decide) ?_
      refine kx_isub hx hb (by omega) dX4_rowProperty_118 ?_
      refine kx_iald hx hb hK hP 3 0 rfl rfl (by omega) (by decide) dX4_rowProperty_119 ?_
      refine lv_isub hx hb dX4_rowProperty_120 ?_
      have e_8 : (((z (5 + 4 * r0 + 1)) - (z (5 + 4 * (r0 - 1) + 1))) : Int32) = (rowNowI z r0 5) := by first | (rw [show r0 = 0 by first | assumption | omega]; show z _ = z _ - nI 0; exact (Int32.sub_zero _).symm) | (show _ = z (5 + 4 * r0 + 1) - (if r0 = 0 then nI 0 else z (5 + 4 * (r0 - 1) + 1)); rw [if_neg (by omega)])
      exact kr_iret hx hb hrt hlocks e_8 rfl dX4_rowProperty_121
    · refine lv_aload_n hx hb dX4_rowProperty_88 rfl (lv_at hl 0 rfl) ?_
      refine va_get (D := D) (ci := 4) (v := .ref (b 0)) (C := RX4) (T := TX4) (N := 5) hx hb hts iX4_rowProperty_4 hown hK hP 0 rfl rfl 1 (by decide) (hts (.fieldLink RX4 20 "HallSights" "hall" "LHallSights$Hall;") (List.mem_of_getElem? (i := 1) rfl)) (fun _ h9 => h9) rfl dX4_rowProperty_89 ?_
      refine va_get (D := D) (ci := 0) (v := .ref (b 2)) (C := RX0) (T := TX0) (N := 10) hx hb hts iX4_rowProperty_0 hown hK hP 1 rfl rfl 2 (by decide) (hts (.fieldLink RX4 79 "HallSights$Hall" "heights" "[I") (List.mem_of_getElem? (i := 3) rfl)) (fun _ h9 => h9) rfl dX4_rowProperty_92 ?_
      refine lv_iload_n hx hb dX4_rowProperty_95 rfl (lv_at hl 1 rfl) ?_
      refine kx_iald hx hb hK hP 3 0 rfl rfl (by omega) (by decide) dX4_rowProperty_96 ?_
      refine lv_goto (tgt := 121) hx hb dX4_rowProperty_97 (by decide) ?_
      have e_9 : (z (5 + 4 * r0 + 1) : Int32) = (rowNowI z r0 5) := by first | (rw [show r0 = 0 by first | assumption | omega]; show z _ = z _ - nI 0; exact (Int32.sub_zero _).symm) | (show _ = z (5 + 4 * r0 + 1) - (if r0 = 0 then nI 0 else z (5 + 4 * (r0 - 1) + 1)); rw [if_neg (by omega)])
      exact kr_iret hx hb hrt hlocks e_9 rfl dX4_rowProperty_121
set_option maxRecDepth 20000 in
theorem iX4_seatProperty_3 : ∀ w ∈ wsX30, w ∈ wsX4_seatProperty := by decide +kernel
set_option maxRecDepth 20000 in
theorem iX4_seatProperty_4 : ∀ w ∈ wsX40, w ∈ wsX4_seatProperty := by decide +kernel
set_option maxHeartbeats 4000000 in
set_option maxRecDepth 100000 in
theorem c_X4_seatProperty (l : Launch) (D : va_G) (cI cC cH cL : ClassId) (x b v u o h t : Nat → Nat) (z : ZZ) (lk : Bool) (pe cn rk : ZZ) (r0 : Nat) (s0 : Nat) (wh : Nat) (hw : WF z) (hws : WS z) (hr : r0 < nR z) (hs : s0 < nS z r0) (hwh : wh < 7) (hL : LKR z pe cn rk) : Met l yX4_seatProperty wsX4_seatProperty ({ frames := 3, cells := 0, slots := 0, locals := 92 }) (kp [.ref (x 0), .int (nI r0), .int (nI s0), .int (nI wh)] D ([(x 0, .inr (4, [.ref (v 0), .ref (b 0), .ref (o 0), .ref (h 0), .ref (t 0)]))] ++ (HW b cI z ++ (SW v (b 0) cI (bI lk) pe cn rk))) (kT cI cC cH cL)) (kr (.returned (some (.int (seatC z r0 s0 wh))))) 0 0 (fun _ => False) := by
  refine Met.ofW (cc := cX4_seatProperty) (maxL := 4) (ret := (some .int)) (by decide) rfl ?_
  intro p e s m args below meth c s₁ B hml hv
  obtain ⟨rfl, hP, hK⟩ := hv
  have hx := B.exec
  have hb := B.bytes
  have hrt := B.returns
  have hts := atoms_spec (ws := wsX4_seatProperty) B.pre
  have hown : s.vm.findClass RX4 = some m.cls := findClass_of_methodNamed B.named
  have hlocks := B.notSynchronized
  have hl := lv_entry ([.ref (x 0), .int (nI r0), .int (nI s0), .int (nI wh)]) (n := 4) (Nat.le_of_ble_eq_true rfl)
  rw [lg_entry_eq]
  generalize (lg_sl ([.ref (x 0), .int (nI r0), .int (nI s0), .int (nI wh)]) ++ List.replicate (4 - (lg_sl ([.ref (x 0), .int (nI r0), .int (nI s0), .int (nI wh)])).length) Slot.unset).toArray = ls at hl ⊢
  have hl : lv_has ls 4 [(0, .ref (x 0)), (1, .int (nI r0)), (2, .int (nI s0)), (3, .int (nI wh))] := hl
  have hR10 := wf_R10 hw
  have hC4 := wf_C4 hw
  have hS0 := wf_S12 hw hr
  have hL0 := hL r0 s0 hr hs
  rcases (show wh = 0 ∨ wh = 1 ∨ wh = 2 ∨ wh = 3 ∨ wh = 4 ∨ wh = 5 ∨ wh = 6 by omega) with rfl | rfl | rfl | rfl | rfl | rfl | rfl
  · refine lv_iload_n hx hb dX4_seatProperty_0 rfl (lv_at hl 3 rfl) ?_
    refine lv_tableIn (tgt := 40) (off := 39) hx hb dX4_seatProperty_1 (by decide) (by decide) (by decide) (by decide) ?_
    refine lv_aload_n hx hb dX4_seatProperty_40 rfl (lv_at hl 0 rfl) ?_
    refine va_get (D := D) (ci := 4) (v := .ref (b 0)) (C := RX4) (T := TX4) (N := 5) hx hb hts iX4_seatProperty_4 hown hK hP 0 rfl rfl 1 (by decide) (hts (.fieldLink RX4 20 "HallSights" "hall" "LHallSights$Hall;") (List.mem_of_getElem? (i := 1) rfl)) (fun _ h9 => h9) rfl dX4_seatProperty_41 ?_
    refine lv_iload_n hx hb dX4_seatProperty_44 rfl (lv_at hl 1 rfl) ?_
    refine lv_iload_n hx hb dX4_seatProperty_45 rfl (lv_at hl 2 rfl) ?_
    refine kr_V (As := [.int (nI r0), .int (nI s0)]) (rest := []) (C := RX0) (own := RX4) ⟨hx, hb, hml, hown, hts⟩ (c_X0_sideOf l D cI cC cH cL b z r0 s0 (by first | assumption | omega) (by first | assumption | omega)) (cwV 2 hts gX4_seatProperty_X0_sideOf rfl rfl rfl k_X0_sideOf ⟨Nat.le_of_ble_eq_true rfl, Nat.le_of_ble_eq_true rfl⟩) (hP.sub (ws' := (HW b cI z)) [1, 2, 3, 4, 5, 6, 7, 8, 9] rfl) hK (va_recv (q := (RX0, TX0, 10)) hK hP (ci := 0) (q0 := 1) rfl rfl) rfl hl.1 rfl (Nat.le_of_ble_eq_true rfl) dX4_seatProperty_46 ⟨Nat.le_of_ble_eq_true rfl, Nat.le_of_ble_eq_true rfl⟩ ?_
    have e_0 : (side z r0 s0 : Int32) = (seatC z r0 s0 0) := by first | rfl | omega | (simp [seatC, b2, Int32.not_lt, Int32.not_le]; done) | (simp [seatC, b2, Int32.not_lt, Int32.not_le]; omega)
    exact kr_iret hx hb hrt hlocks e_0 rfl dX4_seatProperty_49
  · refine lv_iload_n hx hb dX4_seatProperty_0 rfl (lv_at hl 3 rfl) ?_
    refine lv_tableIn (tgt := 50) (off := 49) hx hb dX4_seatProperty_1 (by decide) (by decide) (by decide) (by decide) ?_
    refine lv_aload_n hx hb dX4_seatProperty_50 rfl (lv_at hl 0 rfl) ?_
    refine va_get (D := D) (ci := 4) (v := .ref (b 0)) (C := RX4) (T := TX4) (N := 5) hx hb hts iX4_seatProperty_4 hown hK hP 0 rfl rfl 1 (by decide) (hts (.fieldLink RX4 20 "HallSights" "hall" "LHallSights$Hall;") (List.mem_of_getElem? (i := 1) rfl)) (fun _ h9 => h9) rfl dX4_seatProperty_51 ?_
    refine lv_iload_n hx hb dX4_seatProperty_54 rfl (lv_at hl 1 rfl) ?_
    refine lv_iload_n hx hb dX4_seatProperty_55 rfl (lv_at hl 2 rfl) ?_
    refine kr_V (As := [.int (nI r0), .int (nI s0)]) (rest := []) (C := RX0) (own := RX4) ⟨hx, hb, hml, hown, hts⟩ (c_X0_isTaken l D cI cC cH cL b z r0 s0 (by first | assumption | omega)) (cwV 2 hts gX4_seatProperty_X0_isTaken rfl rfl rfl k_X0_isTaken ⟨Nat.le_of_ble_eq_true rfl, Nat.le_of_ble_eq_true rfl⟩) (hP.sub (ws' := (HW b cI z)) [1, 2, 3, 4, 5, 6, 7, 8, 9] rfl) hK (va_recv (q := (RX0, TX0, 10)) hK hP (ci := 0) (q0 := 1) rfl rfl) rfl hl.1 rfl (Nat.le_of_ble_eq_true rfl) dX4_seatProperty_56 ⟨Nat.le_of_ble_eq_true rfl, Nat.le_of_ble_eq_true rfl⟩ ?_
    refine kx_if_eqb (tgt := 66) hx hb dX4_seatProperty_59 (by decide) (fun c_59_1 => ?_) (fun c_59_2 => ?_)
    · refine lv_iconst (v := nI 0) hx hb dX4_seatProperty_66 (by decide) ?_
      have e_3 : (nI 0 : Int32) = (seatC z r0 s0 1) := by first | rfl | omega | (simp [seatC, b2, Int32.not_lt, Int32.not_le, c_59_1]; done) | (simp [seatC, b2, Int32.not_lt, Int32.not_le, c_59_1]; omega) | (revert c_59_1; simp +contextual [seatC, b2, Int32.not_lt, Int32.not_le]; done) | (revert c_59_1; simp +contextual [seatC, b2, Int32.not_lt, Int32.not_le]; omega)
      exact kr_iret hx hb hrt hlocks e_3 rfl dX4_seatProperty_67
    · refine lv_iconst (v := nI 1) hx hb dX4_seatProperty_62 (by decide) ?_
      refine lv_goto (tgt := 67) hx hb dX4_seatProperty_63 (by decide) ?_
      have e_4 : (nI 1 : Int32) = (seatC z r0 s0 1) := by first | rfl | omega | (simp [seatC, b2, Int32.not_lt, Int32.not_le, c_59_2]; done) | (simp [seatC, b2, Int32.not_lt, Int32.not_le, c_59_2]; omega) | (revert c_59_2; simp +contextual [seatC, b2, Int32.not_lt, Int32.not_le]; done) | (revert c_59_2; simp +contextual [seatC, b2, Int32.not_lt, Int32.not_le]; omega)
      exact kr_iret hx hb hrt hlocks e_4 rfl dX4_seatProperty_67
  · refine lv_iload_n hx hb dX4_seatProperty_0 rfl (lv_at hl 3 rfl) ?_
    refine lv_tableIn (tgt := 68) (off := 67) hx hb dX4_seatProperty_1 (by decide) (by decide) (by decide) (by decide) ?_
    refine lv_aload_n hx hb dX4_seatProperty_68 rfl (lv_at hl 0 rfl) ?_
    refine va_get (D := D) (ci := 4) (v := .ref (v 0)) (C := RX4) (T := TX4) (N := 5) hx hb hts iX4_seatProperty_4 hown hK hP 0 rfl rfl 0 (by decide) (hts (.fieldLink RX4 10 "HallSights" "survey" "LHallSights$Survey;") (List.mem_of_getElem? (i := 2) rfl)) (fun _ h9 => h9) rfl dX4_seatProperty_69 ?_
    refine va_get (D := D) (ci := 3) (v := .ref (v 1)) (C := RX3) (T := TX3) (N := 5) hx hb hts iX4_seatProperty_3 hown hK hP 10 rfl rfl 2 (by decide) (hts (.fieldLink RX4 293 "HallSights$Survey" "people" "[I") (List.mem_of_getElem? (i := 3) rfl)) (fun _ h9 => h9) rfl dX4_seatProperty_72 ?_
    refine lv_iload_n hx hb dX4_seatProperty_75 rfl (lv_at hl 1 rfl) ?_
    refine lv_iload_n hx hb dX4_seatProperty_76 rfl (lv_at hl 2 rfl) ?_
    refine kr_S (As := [.int (nI r0), .int (nI s0)]) (rest := [.ref (v 1)]) (own := RX4) ⟨hx, hb, hml, hown, hts⟩ (c_X3_cellOf l D cI cC cH cL  r0 s0 ) (va_cwS 2 hts gX4_seatProperty_X3_cellOf rfl rfl rfl k_X3_cellOfS ⟨Nat.le_of_ble_eq_true rfl, Nat.le_of_ble_eq_true rfl⟩) (hP.sub (ws' := []) [] rfl) hK rfl hl.1 rfl (Nat.le_of_ble_eq_true rfl) dX4_seatProperty_77 ⟨Nat.le_of_ble_eq_true rfl, Nat.le_of_ble_eq_true rfl⟩ ?_
    refine kx_iald hx hb hK hP 11 0 rfl rfl (by omega) (by decide) dX4_seatProperty_80 ?_
    refine kx_top (show (pe (r0 * 12 + s0) : Int32) = nI (people z r0 s0) from by exact hL0.1) ?_
    have e_5 : (nI (people z r0 s0) : Int32) = (seatC z r0 s0 2) := by first | rfl | omega | (simp [seatC, b2, Int32.not_lt, Int32.not_le]; done) | (simp [seatC, b2, Int32.not_lt, Int32.not_le]; omega)
    exact kr_iret hx hb hrt hlocks e_5 rfl dX4_seatProperty_81
  · refine lv_iload_n hx hb dX4_seatProperty_0 rfl (lv_at hl 3 rfl) ?_
    refine lv_tableIn (tgt := 82) (off := 81) hx hb dX4_seatProperty_1 (by decide) (by decide) (by decide) (by decide) ?_
    refine lv_aload_n hx hb dX4_seatProperty_82 rfl (lv_at hl 0 rfl) ?_
    refine va_get (D := D) (ci := 4) (v := .ref (v 0)) (C := RX4) (T := TX4) (N := 5) hx hb hts iX4_seatProperty_4 hown hK hP 0 rfl rfl 0 (by decide) (hts (.fieldLink RX4 10 "HallSights" "survey" "LHallSights$Survey;") (List.mem_of_getElem? (i := 2) rfl)) (fun _ h9 => h9) rfl dX4_seatProperty_83 ?_
    refine va_get (D := D) (ci := 3) (v := .ref (v 2)) (C := RX3) (T := TX3) (N := 5) hx hb hts iX4_seatProperty_3 hown hK hP 10 rfl rfl 3 (by decide) (hts (.fieldLink RX4 299 "HallSights$Survey" "columns" "[I") (List.mem_of_getElem? (i := 4) rfl)) (fun _ h9 => h9) rfl dX4_seatProperty_86 ?_
    refine lv_iload_n hx hb dX4_seatProperty_89 rfl (lv_at hl 1 rfl) ?_
    refine lv_iload_n hx hb dX4_seatProperty_90 rfl (lv_at hl 2 rfl) ?_
    refine kr_S (As := [.int (nI r0), .int (nI s0)]) (rest := [.ref (v 2)]) (own := RX4) ⟨hx, hb, hml, hown, hts⟩ (c_X3_cellOf l D cI cC cH cL  r0 s0 ) (va_cwS 2 hts gX4_seatProperty_X3_cellOf rfl rfl rfl k_X3_cellOfS ⟨Nat.le_of_ble_eq_true rfl, Nat.le_of_ble_eq_true rfl⟩) (hP.sub (ws' := []) [] rfl) hK rfl hl.1 rfl (Nat.le_of_ble_eq_true rfl) dX4_seatProperty_91 ⟨Nat.le_of_ble_eq_true rfl, Nat.le_of_ble_eq_true rfl⟩ ?_
    refine kx_iald hx hb hK hP 12 0 rfl rfl (by omega) (by decide) dX4_seatProperty_94 ?_
    refine kx_top (show (cn (r0 * 12 + s0) : Int32) = nI (colsW z r0 s0 (-1)) from by exact hL0.2.1) ?_
    have e_6 : (nI (colsW z r0 s0 (-1)) : Int32) = (seatC z r0 s0 3) := by first | rfl | omega | (simp [seatC, b2, Int32.not_lt, Int32.not_le]; done) | (simp [seatC, b2, Int32.not_lt, Int32.not_le]; omega)
    exact kr_iret hx hb hrt hlocks e_6 rfl dX4_seatProperty_95
  · refine lv_iload_n hx hb dX4_seatProperty_0 rfl (lv_at hl 3 rfl) ?_
    refine lv_tableIn (tgt := 96) (off := 95) hx hb dX4_seatProperty_1 (by decide) (by decide) (by decide) (by decide) ?_
    refine lv_aload_n hx hb dX4_seatProperty_96 rfl (lv_at hl 0 rfl) ?_
    refine va_get (D := D) (ci := 4) (v := .ref (v 0)) (C := RX4) (T := TX4) (N := 5) hx hb hts iX4_seatProperty_4 hown hK hP 0 rfl rfl 0 (by decide) (hts (.fieldLink RX4 10 "HallSights" "survey" "LHallSights$Survey;") (List.mem_of_getElem? (i := 2) rfl)) (fun _ h9 => h9) rfl dX4_seatProperty_97 ?_
    refine lv_iload_n hx hb dX4_seatProperty_100 rfl (lv_at hl 1 rfl) ?_
    refine lv_iload_n hx hb dX4_seatProperty_101 rfl (lv_at hl 2 rfl) ?_
    refine kr_V (As := [.int (nI r0), .int (nI s0)]) (rest := []) (C := RX3) (own := RX4) ⟨hx, hb, hml, hown, hts⟩ (c_X3_sees l D cI cC cH cL v b z lk pe cn rk r0 s0 (by first | assumption | omega) (by first | assumption | omega) (by first | assumption | omega) (by first | assumption | omega)) (cwV 2 hts gX4_seatProperty_X3_sees rfl rfl rfl k_X3_sees ⟨Nat.le_of_ble_eq_true rfl, Nat.le_of_ble_eq_true rfl⟩) (hP.sub (ws' := (HW b cI z ++ SW v (b 0) cI (bI lk) pe cn rk)) [1, 2, 3, 4, 5, 6, 7, 8, 9, 10, 11, 12, 13] rfl) hK (va_recv (q := (RX3, TX3, 5)) hK hP (ci := 3) (q0 := 10) rfl rfl) rfl hl.1 rfl (Nat.le_of_ble_eq_true rfl) dX4_seatProperty_102 ⟨Nat.le_of_ble_eq_true rfl, Nat.le_of_ble_eq_true rfl⟩ ?_
    refine kx_if_eqb (tgt := 112) hx hb dX4_seatProperty_105 (by decide) (fun c_105_7 => ?_) (fun c_105_8 => ?_)
    · refine lv_iconst (v := nI 0) hx hb dX4_seatProperty_112 (by decide) ?_
      have e_9 : (nI 0 : Int32) = (seatC z r0 s0 4) := by first | rfl | omega | (simp [seatC, b2, Int32.not_lt, Int32.not_le, c_105_7]; done) | (simp [seatC, b2, Int32.not_lt, Int32.not_le, c_105_7]; omega) | (revert c_105_7; simp +contextual [seatC, b2, Int32.not_lt, Int32.not_le]; done) | (revert c_105_7; simp +contextual [seatC, b2, Int32.not_lt, Int32.not_le]; omega)
      exact kr_iret hx hb hrt hlocks e_9 rfl dX4_seatProperty_113
    · refine lv_iconst (v := nI 1) hx hb dX4_seatProperty_108 (by decide) ?_
      refine lv_goto (tgt := 113) hx hb dX4_seatProperty_109 (by decide) ?_
      have e_10 : (nI 1 : Int32) = (seatC z r0 s0 4) := by first | rfl | omega | (simp [seatC, b2, Int32.not_lt, Int32.not_le, c_105_8]; done) | (simp [seatC, b2, Int32.not_lt, Int32.not_le, c_105_8]; omega) | (revert c_105_8; simp +contextual [seatC, b2, Int32.not_lt, Int32.not_le]; done) | (revert c_105_8; simp +contextual [seatC, b2, Int32.not_lt, Int32.not_le]; omega)
      exact kr_iret hx hb hrt hlocks e_10 rfl dX4_seatProperty_113
  · refine lv_iload_n hx hb dX4_seatProperty_0 rfl (lv_at hl 3 rfl) ?_
    refine lv_tableIn (tgt := 114) (off := 113) hx hb dX4_seatProperty_1 (by decide) (by decide) (by decide) (by decide) ?_
    refine lv_aload_n hx hb dX4_seatProperty_114 rfl (lv_at hl 0 rfl) ?_
    refine va_get (D := D) (ci := 4) (v := .ref (b 0)) (C := RX4) (T := TX4) (N := 5) hx hb hts iX4_seatProperty_4 hown hK hP 0 rfl rfl 1 (by decide) (hts (.fieldLink RX4 20 "HallSights" "hall" "LHallSights$Hall;") (List.mem_of_getElem? (i := 1) rfl)) (fun _ h9 => h9) rfl dX4_seatProperty_115 ?_
    refine lv_iload_n hx hb dX4_seatProperty_118 rfl (lv_at hl 1 rfl) ?_
    refine lv_iload_n hx hb dX4_seatProperty_119 rfl (lv_at hl 2 rfl) ?_
    refine kr_V (As := [.int (nI r0), .int (nI s0)]) (rest := []) (C := RX0) (own := RX4) ⟨hx, hb, hml, hown, hts⟩ (c_X0_takenBehind l D cI cC cH cL b z r0 s0 (by first | assumption | omega) (by first | assumption | omega) (by first | assumption | omega)) (cwV 2 hts gX4_seatProperty_X0_takenBehind rfl rfl rfl k_X0_takenBehind ⟨Nat.le_of_ble_eq_true rfl, Nat.le_of_ble_eq_true rfl⟩) (hP.sub (ws' := (HW b cI z)) [1, 2, 3, 4, 5, 6, 7, 8, 9] rfl) hK (va_recv (q := (RX0, TX0, 10)) hK hP (ci := 0) (q0 := 1) rfl rfl) rfl hl.1 rfl (Nat.le_of_ble_eq_true rfl) dX4_seatProperty_120 ⟨Nat.le_of_ble_eq_true rfl, Nat.le_of_ble_eq_true rfl⟩ ?_
    have e_11 : (nI (blkd z r0 s0 false) : Int32) = (seatC z r0 s0 5) := by first | rfl | omega | (simp [seatC, b2, Int32.not_lt, Int32.not_le]; done) | (simp [seatC, b2, Int32.not_lt, Int32.not_le]; omega)
    exact kr_iret hx hb hrt hlocks e_11 rfl dX4_seatProperty_123
  · refine lv_iload_n hx hb dX4_seatProperty_0 rfl (lv_at hl 3 rfl) ?_
    refine lv_tableOut (tgt := 124) hx hb dX4_seatProperty_1 (by decide) (by decide) ?_
    refine lv_aload_n hx hb dX4_seatProperty_124 rfl (lv_at hl 0 rfl) ?_
    refine va_get (D := D) (ci := 4) (v := .ref (v 0)) (C := RX4) (T := TX4) (N := 5) hx hb hts iX4_seatProperty_4 hown hK hP 0 rfl rfl 0 (by decide) (hts (.fieldLink RX4 10 "HallSights" "survey" "LHallSights$Survey;") (List.mem_of_getElem? (i := 2) rfl)) (fun _ h9 => h9) rfl dX4_seatProperty_125 ?_
    refine lv_iload_n hx hb dX4_seatProperty_128 rfl (lv_at hl 1 rfl) ?_
    refine lv_iload_n hx hb dX4_seatProperty_129 rfl (lv_at hl 2 rfl) ?_
    refine lv_iconst (v := nI 0) hx hb dX4_seatProperty_130 (by decide) ?_
    refine kr_V (As := [.int (nI r0), .int (nI s0), .int (bI false)]) (rest := []) (C := RX3) (own := RX4) ⟨hx, hb, hml, hown, hts⟩ (c_X3_placeOf l D cI cC cH cL v b z lk pe cn rk r0 s0 false (by first | assumption | omega) (by first | assumption | omega) (by first | assumption | omega) (by first | assumption | omega)) (cwV 3 hts gX4_seatProperty_X3_placeOf rfl rfl rfl k_X3_placeOf ⟨Nat.le_of_ble_eq_true rfl, Nat.le_of_ble_eq_true rfl⟩) (hP.sub (ws' := (HW b cI z ++ SW v (b 0) cI (bI lk) pe cn rk)) [1, 2, 3, 4, 5, 6, 7, 8, 9, 10, 11, 12, 13] rfl) hK (va_recv (q := (RX3, TX3, 5)) hK hP (ci := 3) (q0 := 10) rfl rfl) rfl hl.1 rfl (Nat.le_of_ble_eq_true rfl) dX4_seatProperty_131 ⟨Nat.le_of_ble_eq_true rfl, Nat.le_of_ble_eq_true rfl⟩ ?_
    have e_12 : (nI (plc z r0 s0 false) : Int32) = (seatC z r0 s0 6) := by first | rfl | omega | (simp [seatC, b2, Int32.not_lt, Int32.not_le]; done) | (simp [seatC, b2, Int32.not_lt, Int32.not_le]; omega)
    exact kr_iret hx hb hrt hlocks e_12 rfl dX4_seatProperty_134
set_option maxRecDepth 20000 in
theorem iX4_columnProperty_0 : ∀ w ∈ wsX00, w ∈ wsX4_columnProperty := by decide +kernel
set_option maxRecDepth 20000 in
theorem iX4_columnProperty_4 : ∀ w ∈ wsX40, w ∈ wsX4_columnProperty := by decide +kernel
set_option maxHeartbeats 4000000 in
set_option maxRecDepth 100000 in
theorem c_X4_columnProperty (l : Launch) (D : va_G) (cI cC cH cL : ClassId) (x b v u o h t : Nat → Nat) (z : ZZ) (k0 : Nat) (wh : Nat) (hw : WF z) (hk : k0 < nC z) (hwh : wh < 4) : Met l yX4_columnProperty wsX4_columnProperty ({ frames := 3, cells := 0, slots := 0, locals := 90 }) (kp [.ref (x 0), .int (nI k0), .int (nI wh)] D ([(x 0, .inr (4, [.ref (v 0), .ref (b 0), .ref (o 0), .ref (h 0), .ref (t 0)]))] ++ (HW b cI z)) (kT cI cC cH cL)) (kr (.returned (some (.int (colNow z k0 wh))))) 0 0 (fun _ => False) := by
  refine Met.ofW (cc := cX4_columnProperty) (maxL := 3) (ret := (some .int)) (by decide) rfl ?_
  intro p e s m args below meth c s₁ B hml hv
  obtain ⟨rfl, hP, hK⟩ := hv
  have hx := B.exec
  have hb := B.bytes
  have hrt := B.returns
  have hts := atoms_spec (ws := wsX4_columnProperty) B.pre
  have hown : s.vm.findClass RX4 = some m.cls := findClass_of_methodNamed B.named
  have hlocks := B.notSynchronized
  have hl := lv_entry ([.ref (x 0), .int (nI k0), .int (nI wh)]) (n := 3) (Nat.le_of_ble_eq_true rfl)
  rw [lg_entry_eq]
  generalize (lg_sl ([.ref (x 0), .int (nI k0), .int (nI wh)]) ++ List.replicate (3 - (lg_sl ([.ref (x 0), .int (nI k0), .int (nI wh)])).length) Slot.unset).toArray = ls at hl ⊢
  have hl : lv_has ls 3 [(0, .ref (x 0)), (1, .int (nI k0)), (2, .int (nI wh))] := hl
  have hR10 := wf_R10 hw
  have hC4 := wf_C4 hw
  rcases (show wh = 0 ∨ wh = 1 ∨ wh = 2 ∨ wh = 3 by omega) with rfl | rfl | rfl | rfl
  · refine lv_iload_n hx hb dX4_columnProperty_0 rfl (lv_at hl 2 rfl) ?_
    refine lv_tableIn (tgt := 28) (off := 27) hx hb dX4_columnProperty_1 (by decide) (by decide) (by decide) (by decide) ?_
    refine lv_aload_n hx hb dX4_columnProperty_28 rfl (lv_at hl 0 rfl) ?_
    refine va_get (D := D) (ci := 4) (v := .ref (b 0)) (C := RX4) (T := TX4) (N := 5) hx hb hts iX4_columnProperty_4 hown hK hP 0 rfl rfl 1 (by decide) (hts (.fieldLink RX4 20 "HallSights" "hall" "LHallSights$Hall;") (List.mem_of_getElem? (i := 1) rfl)) (fun _ h9 => h9) rfl dX4_columnProperty_29 ?_
    refine va_get (D := D) (ci := 0) (v := .ref (b 5)) (C := RX0) (T := TX0) (N := 10) hx hb hts iX4_columnProperty_0 hown hK hP 1 rfl rfl 6 (by decide) (hts (.fieldLink RX4 311 "HallSights$Hall" "columnDistances" "[I") (List.mem_of_getElem? (i := 2) rfl)) (fun _ h9 => h9) rfl dX4_columnProperty_32 ?_
    refine lv_iload_n hx hb dX4_columnProperty_35 rfl (lv_at hl 1 rfl) ?_
    refine kx_iald hx hb hK hP 6 0 rfl rfl (by omega) (by decide) dX4_columnProperty_36 ?_
    have e_0 : (z (45 + 3 * k0) : Int32) = (colNow z k0 0) := by first | rfl | omega | (simp [colNow, Int32.not_lt, Int32.not_le]; done) | (simp [colNow, Int32.not_lt, Int32.not_le]; omega)
    exact kr_iret hx hb hrt hlocks e_0 rfl dX4_columnProperty_37
  · refine lv_iload_n hx hb dX4_columnProperty_0 rfl (lv_at hl 2 rfl) ?_
    refine lv_tableIn (tgt := 38) (off := 37) hx hb dX4_columnProperty_1 (by decide) (by decide) (by decide) (by decide) ?_
    refine lv_aload_n hx hb dX4_columnProperty_38 rfl (lv_at hl 0 rfl) ?_
    refine va_get (D := D) (ci := 4) (v := .ref (b 0)) (C := RX4) (T := TX4) (N := 5) hx hb hts iX4_columnProperty_4 hown hK hP 0 rfl rfl 1 (by decide) (hts (.fieldLink RX4 20 "HallSights" "hall" "LHallSights$Hall;") (List.mem_of_getElem? (i := 1) rfl)) (fun _ h9 => h9) rfl dX4_columnProperty_39 ?_
    refine va_get (D := D) (ci := 0) (v := .ref (b 6)) (C := RX0) (T := TX0) (N := 10) hx hb hts iX4_columnProperty_0 hown hK hP 1 rfl rfl 7 (by decide) (hts (.fieldLink RX4 314 "HallSights$Hall" "columnSides" "[I") (List.mem_of_getElem? (i := 3) rfl)) (fun _ h9 => h9) rfl dX4_columnProperty_42 ?_
    refine lv_iload_n hx hb dX4_columnProperty_45 rfl (lv_at hl 1 rfl) ?_
    refine kx_iald hx hb hK hP 7 0 rfl rfl (by omega) (by decide) dX4_columnProperty_46 ?_
    have e_1 : (z (45 + 3 * k0 + 1) : Int32) = (colNow z k0 1) := by first | rfl | omega | (simp [colNow, Int32.not_lt, Int32.not_le]; done) | (simp [colNow, Int32.not_lt, Int32.not_le]; omega)
    exact kr_iret hx hb hrt hlocks e_1 rfl dX4_columnProperty_47
  · refine lv_iload_n hx hb dX4_columnProperty_0 rfl (lv_at hl 2 rfl) ?_
    refine lv_tableIn (tgt := 48) (off := 47) hx hb dX4_columnProperty_1 (by decide) (by decide) (by decide) (by decide) ?_
    refine lv_aload_n hx hb dX4_columnProperty_48 rfl (lv_at hl 0 rfl) ?_
    refine va_get (D := D) (ci := 4) (v := .ref (b 0)) (C := RX4) (T := TX4) (N := 5) hx hb hts iX4_columnProperty_4 hown hK hP 0 rfl rfl 1 (by decide) (hts (.fieldLink RX4 20 "HallSights" "hall" "LHallSights$Hall;") (List.mem_of_getElem? (i := 1) rfl)) (fun _ h9 => h9) rfl dX4_columnProperty_49 ?_
    refine va_get (D := D) (ci := 0) (v := .ref (b 7)) (C := RX0) (T := TX0) (N := 10) hx hb hts iX4_columnProperty_0 hown hK hP 1 rfl rfl 8 (by decide) (hts (.fieldLink RX4 317 "HallSights$Hall" "columnHalves" "[I") (List.mem_of_getElem? (i := 4) rfl)) (fun _ h9 => h9) rfl dX4_columnProperty_52 ?_
    refine lv_iload_n hx hb dX4_columnProperty_55 rfl (lv_at hl 1 rfl) ?_
    refine kx_iald hx hb hK hP 8 0 rfl rfl (by omega) (by decide) dX4_columnProperty_56 ?_
    have e_2 : (z (45 + 3 * k0 + 2) : Int32) = (colNow z k0 2) := by first | rfl | omega | (simp [colNow, Int32.not_lt, Int32.not_le]; done) | (simp [colNow, Int32.not_lt, Int32.not_le]; omega)
    exact kr_iret hx hb hrt hlocks e_2 rfl dX4_columnProperty_57
  · refine lv_iload_n hx hb dX4_columnProperty_0 rfl (lv_at hl 2 rfl) ?_
    refine lv_tableOut (tgt := 58) hx hb dX4_columnProperty_1 (by decide) (by decide) ?_
    refine lv_aload_n hx hb dX4_columnProperty_58 rfl (lv_at hl 0 rfl) ?_
    refine va_get (D := D) (ci := 4) (v := .ref (b 0)) (C := RX4) (T := TX4) (N := 5) hx hb hts iX4_columnProperty_4 hown hK hP 0 rfl rfl 1 (by decide) (hts (.fieldLink RX4 20 "HallSights" "hall" "LHallSights$Hall;") (List.mem_of_getElem? (i := 1) rfl)) (fun _ h9 => h9) rfl dX4_columnProperty_59 ?_
    refine lv_iload_n hx hb dX4_columnProperty_62 rfl (lv_at hl 1 rfl) ?_
    refine kr_V (As := [.int (nI k0)]) (rest := []) (C := RX0) (own := RX4) ⟨hx, hb, hml, hown, hts⟩ (c_X0_seatsBehindColumn l D cI cC cH cL b z k0 (by first | assumption | omega) (by first | assumption | omega)) (cwV 1 hts gX4_columnProperty_X0_seatsBehindColumn rfl rfl rfl k_X0_seatsBehindColumn ⟨Nat.le_of_ble_eq_true rfl, Nat.le_of_ble_eq_true rfl⟩) (hP.sub (ws' := (HW b cI z)) [1, 2, 3, 4, 5, 6, 7, 8, 9] rfl) hK (va_recv (q := (RX0, TX0, 10)) hK hP (ci := 0) (q0 := 1) rfl rfl) rfl hl.1 rfl (Nat.le_of_ble_eq_true rfl) dX4_columnProperty_63 ⟨Nat.le_of_ble_eq_true rfl, Nat.le_of_ble_eq_true rfl⟩ ?_
    have e_3 : (nI (cBeh z k0) : Int32) = (colNow z k0 3) := by first | rfl | omega | (simp [colNow, Int32.not_lt, Int32.not_le]; done) | (simp [colNow, Int32.not_lt, Int32.not_le]; omega)
    exact kr_iret hx hb hrt hlocks e_3 rfl dX4_columnProperty_66
set_option maxRecDepth 20000 in
theorem iX4_numberOf_0 : ∀ w ∈ wsX00, w ∈ wsX4_numberOf := by decide +kernel
set_option maxRecDepth 20000 in
theorem iX4_numberOf_1 : ∀ w ∈ wsX10, w ∈ wsX4_numberOf := by decide +kernel
set_option maxRecDepth 20000 in
theorem iX4_numberOf_4 : ∀ w ∈ wsX40, w ∈ wsX4_numberOf := by decide +kernel
set_option maxHeartbeats 4000000 in
set_option maxRecDepth 100000 in
theorem c_X4_numberOf (l : Launch) (D : va_G) (cI cC cH cL : ClassId) (x b v u o h t : Nat → Nat) (z : ZZ) (lk : Bool) (pe cn rk : ZZ) (nk : Nat) (wh : Nat) (hw : WF z) (hv : VT z) (hwh : wh < 9) (hL : LKR z pe cn rk) : Met l yX4_numberOf wsX4_numberOf ({ frames := 5, cells := 0, slots := 0, locals := 111 }) (kp [.ref (x 0), .int (nI wh)] D ([(x 0, .inr (4, [.ref (v 0), .ref (b 0), .ref (o 0), .ref (h 0), .ref (t 0)]))] ++ (HW b cI z ++ (SW v (b 0) cI (bI lk) pe cn rk ++ ([(h 0, .inr (1, [.ref (h 1), .int (nI nk)]))])))) (kT cI cC cH cL)) (kr (.returned (some (.int (countI z nk wh))))) 0 0 (fun _ => False) := by
  refine Met.ofW (cc := cX4_numberOf) (maxL := 2) (ret := (some .int)) (by decide) rfl ?_
  intro p e s m args below meth c s₁ B hml hv
  obtain ⟨rfl, hP, hK⟩ := hv
  have hx := B.exec
  have hb := B.bytes
  have hrt := B.returns
  have hts := atoms_spec (ws := wsX4_numberOf) B.pre
  have hown : s.vm.findClass RX4 = some m.cls := findClass_of_methodNamed B.named
  have hlocks := B.notSynchronized
  have hl := lv_entry ([.ref (x 0), .int (nI wh)]) (n := 2) (Nat.le_of_ble_eq_true rfl)
  rw [lg_entry_eq]
  generalize (lg_sl ([.ref (x 0), .int (nI wh)]) ++ List.replicate (2 - (lg_sl ([.ref (x 0), .int (nI wh)])).length) Slot.unset).toArray = ls at hl ⊢
  have hl : lv_has ls 2 [(0, .ref (x 0)), (1, .int (nI wh))] := hl
  have hR10 := wf_R10 hw
  have hC4 := wf_C4 hw
  rcases (show wh = 0 ∨ wh = 1 ∨ wh = 2 ∨ wh = 3 ∨ wh = 4 ∨ wh = 5 ∨ wh = 6 ∨ wh = 7 ∨ wh = 8 by omega) with rfl | rfl | rfl | rfl | rfl | rfl | rfl | rfl | rfl
  · refine lv_iload_n hx hb dX4_numberOf_0 rfl (lv_at hl 1 rfl) ?_
    refine lv_tableIn (tgt := 48) (off := 47) hx hb dX4_numberOf_1 (by decide) (by decide) (by decide) (by decide) ?_
    refine lv_aload_n hx hb dX4_numberOf_48 rfl (lv_at hl 0 rfl) ?_
    refine va_get (D := D) (ci := 4) (v := .ref (b 0)) (C := RX4) (T := TX4) (N := 5) hx hb hts iX4_numberOf_4 hown hK hP 0 rfl rfl 1 (by decide) (hts (.fieldLink RX4 20 "HallSights" "hall" "LHallSights$Hall;") (List.mem_of_getElem? (i := 1) rfl)) (fun _ h9 => h9) rfl dX4_numberOf_49 ?_
    refine va_get (D := D) (ci := 0) (v := .int (z 3)) (C := RX0) (T := TX0) (N := 10) hx hb hts iX4_numberOf_0 hown hK hP 1 rfl rfl 0 (by decide) (hts (.fieldLink RX4 156 "HallSights$Hall" "rows" "I") (List.mem_of_getElem? (i := 2) rfl)) (fun _ h9 => h9) rfl dX4_numberOf_52 ?_
    refine kx_top (wf_R hw) ?_
    have e_0 : (nI (nR z) : Int32) = (countI z nk 0) := by first | rfl | omega | (simp [countI, Int32.not_lt, Int32.not_le]; done) | (simp [countI, Int32.not_lt, Int32.not_le]; omega)
    exact kr_iret hx hb hrt hlocks e_0 rfl dX4_numberOf_55
  · refine lv_iload_n hx hb dX4_numberOf_0 rfl (lv_at hl 1 rfl) ?_
    refine lv_tableIn (tgt := 56) (off := 55) hx hb dX4_numberOf_1 (by decide) (by decide) (by decide) (by decide) ?_
    refine lv_aload_n hx hb dX4_numberOf_56 rfl (lv_at hl 0 rfl) ?_
    refine va_get (D := D) (ci := 4) (v := .ref (b 0)) (C := RX4) (T := TX4) (N := 5) hx hb hts iX4_numberOf_4 hown hK hP 0 rfl rfl 1 (by decide) (hts (.fieldLink RX4 20 "HallSights" "hall" "LHallSights$Hall;") (List.mem_of_getElem? (i := 1) rfl)) (fun _ h9 => h9) rfl dX4_numberOf_57 ?_
    refine va_get (D := D) (ci := 0) (v := .int (z 4)) (C := RX0) (T := TX0) (N := 10) hx hb hts iX4_numberOf_0 hown hK hP 1 rfl rfl 5 (by decide) (hts (.fieldLink RX4 87 "HallSights$Hall" "columns" "I") (List.mem_of_getElem? (i := 3) rfl)) (fun _ h9 => h9) rfl dX4_numberOf_60 ?_
    refine kx_top (wf_C hw) ?_
    have e_1 : (nI (nC z) : Int32) = (countI z nk 1) := by first | rfl | omega | (simp [countI, Int32.not_lt, Int32.not_le]; done) | (simp [countI, Int32.not_lt, Int32.not_le]; omega)
    exact kr_iret hx hb hrt hlocks e_1 rfl dX4_numberOf_63
  · refine lv_iload_n hx hb dX4_numberOf_0 rfl (lv_at hl 1 rfl) ?_
    refine lv_tableIn (tgt := 64) (off := 63) hx hb dX4_numberOf_1 (by decide) (by decide) (by decide) (by decide) ?_
    refine lv_aload_n hx hb dX4_numberOf_64 rfl (lv_at hl 0 rfl) ?_
    refine va_get (D := D) (ci := 4) (v := .ref (b 0)) (C := RX4) (T := TX4) (N := 5) hx hb hts iX4_numberOf_4 hown hK hP 0 rfl rfl 1 (by decide) (hts (.fieldLink RX4 20 "HallSights" "hall" "LHallSights$Hall;") (List.mem_of_getElem? (i := 1) rfl)) (fun _ h9 => h9) rfl dX4_numberOf_65 ?_
    refine kr_V (As := []) (rest := []) (C := RX0) (own := RX4) ⟨hx, hb, hml, hown, hts⟩ (c_X0_seatsInAll l D cI cC cH cL b z  (by first | assumption | omega)) (cwV 0 hts gX4_numberOf_X0_seatsInAll rfl rfl rfl k_X0_seatsInAll ⟨Nat.le_of_ble_eq_true rfl, Nat.le_of_ble_eq_true rfl⟩) (hP.sub (ws' := (HW b cI z)) [1, 2, 3, 4, 5, 6, 7, 8, 9] rfl) hK (va_recv (q := (RX0, TX0, 10)) hK hP (ci := 0) (q0 := 1) rfl rfl) rfl hl.1 rfl (Nat.le_of_ble_eq_true rfl) dX4_numberOf_68 ⟨Nat.le_of_ble_eq_true rfl, Nat.le_of_ble_eq_true rfl⟩ ?_
    have e_2 : (nI (seatsAll z) : Int32) = (countI z nk 2) := by first | rfl | omega | (simp [countI, Int32.not_lt, Int32.not_le]; done) | (simp [countI, Int32.not_lt, Int32.not_le]; omega)
    exact kr_iret hx hb hrt hlocks e_2 rfl dX4_numberOf_71
  · refine lv_iload_n hx hb dX4_numberOf_0 rfl (lv_at hl 1 rfl) ?_
    refine lv_tableIn (tgt := 72) (off := 71) hx hb dX4_numberOf_1 (by decide) (by decide) (by decide) (by decide) ?_
    refine lv_aload_n hx hb dX4_numberOf_72 rfl (lv_at hl 0 rfl) ?_
    refine va_get (D := D) (ci := 4) (v := .ref (b 0)) (C := RX4) (T := TX4) (N := 5) hx hb hts iX4_numberOf_4 hown hK hP 0 rfl rfl 1 (by decide) (hts (.fieldLink RX4 20 "HallSights" "hall" "LHallSights$Hall;") (List.mem_of_getElem? (i := 1) rfl)) (fun _ h9 => h9) rfl dX4_numberOf_73 ?_
    refine kr_V (As := []) (rest := []) (C := RX0) (own := RX4) ⟨hx, hb, hml, hown, hts⟩ (c_X0_takenInAll l D cI cC cH cL b z  (by first | assumption | omega) (by first | assumption | omega)) (cwV 0 hts gX4_numberOf_X0_takenInAll rfl rfl rfl k_X0_takenInAll ⟨Nat.le_of_ble_eq_true rfl, Nat.le_of_ble_eq_true rfl⟩) (hP.sub (ws' := (HW b cI z)) [1, 2, 3, 4, 5, 6, 7, 8, 9] rfl) hK (va_recv (q := (RX0, TX0, 10)) hK hP (ci := 0) (q0 := 1) rfl rfl) rfl hl.1 rfl (Nat.le_of_ble_eq_true rfl) dX4_numberOf_76 ⟨Nat.le_of_ble_eq_true rfl, Nat.le_of_ble_eq_true rfl⟩ ?_
    have e_3 : (nI (takenAll z) : Int32) = (countI z nk 3) := by first | rfl | omega | (simp [countI, Int32.not_lt, Int32.not_le]; done) | (simp [countI, Int32.not_lt, Int32.not_le]; omega)
    exact kr_iret hx hb hrt hlocks e_3 rfl dX4_numberOf_79
  · refine lv_iload_n hx hb dX4_numberOf_0 rfl (lv_at hl 1 rfl) ?_
    refine lv_tableIn (tgt := 80) (off := 79) hx hb dX4_numberOf_1 (by decide) (by decide) (by decide) (by decide) ?_
    refine lv_aload_n hx hb dX4_numberOf_80 rfl (lv_at hl 0 rfl) ?_
    refine va_get (D := D) (ci := 4) (v := .ref (v 0)) (C := RX4) (T := TX4) (N := 5) hx hb hts iX4_numberOf_4 hown hK hP 0 rfl rfl 0 (by decide) (hts (.fieldLink RX4 10 "HallSights" "survey" "LHallSights$Survey;") (List.mem_of_getElem? (i := 4) rfl)) (fun _ h9 => h9) rfl dX4_numberOf_81 ?_
    refine kr_V (As := []) (rest := []) (C := RX3) (own := RX4) ⟨hx, hb, hml, hown, hts⟩ (c_X3_seeing l D cI cC cH cL v b z lk pe cn rk  (by first | assumption | omega) (by first | assumption | omega)) (cwV 0 hts gX4_numberOf_X3_seeing rfl rfl rfl k_X3_seeing ⟨Nat.le_of_ble_eq_true rfl, Nat.le_of_ble_eq_true rfl⟩) (hP.sub (ws' := (HW b cI z ++ SW v (b 0) cI (bI lk) pe cn rk)) [1, 2, 3, 4, 5, 6, 7, 8, 9, 10, 11, 12, 13] rfl) hK (va_recv (q := (RX3, TX3, 5)) hK hP (ci := 3) (q0 := 10) rfl rfl) rfl hl.1 rfl (Nat.le_of_ble_eq_true rfl) dX4_numberOf_84 ⟨Nat.le_of_ble_eq_true rfl, Nat.le_of_ble_eq_true rfl⟩ ?_
    have e_4 : (nI (seeing z false) : Int32) = (countI z nk 4) := by first | rfl | omega | (simp [countI, Int32.not_lt, Int32.not_le]; done) | (simp [countI, Int32.not_lt, Int32.not_le]; omega)
    exact kr_iret hx hb hrt hlocks e_4 rfl dX4_numberOf_87
  · refine lv_iload_n hx hb dX4_numberOf_0 rfl (lv_at hl 1 rfl) ?_
    refine lv_tableIn (tgt := 88) (off := 87) hx hb dX4_numberOf_1 (by decide) (by decide) (by decide) (by decide) ?_
    refine lv_aload_n hx hb dX4_numberOf_88 rfl (lv_at hl 0 rfl) ?_
    refine va_get (D := D) (ci := 4) (v := .ref (v 0)) (C := RX4) (T := TX4) (N := 5) hx hb hts iX4_numberOf_4 hown hK hP 0 rfl rfl 0 (by decide) (hts (.fieldLink RX4 10 "HallSights" "survey" "LHallSights$Survey;") (List.mem_of_getElem? (i := 4) rfl)) (fun _ h9 => h9) rfl dX4_numberOf_89 ?_
    refine kr_V (As := []) (rest := []) (C := RX3) (own := RX4) ⟨hx, hb, hml, hown, hts⟩ (c_X3_takenSeeing l D cI cC cH cL v b z lk pe cn rk  (by first | assumption | omega) (by first | assumption | omega)) (cwV 0 hts gX4_numberOf_X3_takenSeeing rfl rfl rfl k_X3_takenSeeing ⟨Nat.le_of_ble_eq_true rfl, Nat.le_of_ble_eq_true rfl⟩) (hP.sub (ws' := (HW b cI z ++ SW v (b 0) cI (bI lk) pe cn rk)) [1, 2, 3, 4, 5, 6, 7, 8, 9, 10, 11, 12, 13] rfl) hK (va_recv (q := (RX3, TX3, 5)) hK hP (ci := 3) (q0 := 10) rfl rfl) rfl hl.1 rfl (Nat.le_of_ble_eq_true rfl) dX4_numberOf_92 ⟨Nat.le_of_ble_eq_true rfl, Nat.le_of_ble_eq_true rfl⟩ ?_
    have e_5 : (nI (seeing z true) : Int32) = (countI z nk 5) := by first | rfl | omega | (simp [countI, Int32.not_lt, Int32.not_le]; done) | (simp [countI, Int32.not_lt, Int32.not_le]; omega)
    exact kr_iret hx hb hrt hlocks e_5 rfl dX4_numberOf_95
  · refine lv_iload_n hx hb dX4_numberOf_0 rfl (lv_at hl 1 rfl) ?_
    refine lv_tableIn (tgt := 96) (off := 95) hx hb dX4_numberOf_1 (by decide) (by decide) (by decide) (by decide) ?_
    refine lv_aload_n hx hb dX4_numberOf_96 rfl (lv_at hl 0 rfl) ?_
    refine va_get (D := D) (ci := 4) (v := .ref (v 0)) (C := RX4) (T := TX4) (N := 5) hx hb hts iX4_numberOf_4 hown hK hP 0 rfl rfl 0 (by decide) (hts (.fieldLink RX4 10 "HallSights" "survey" "LHallSights$Survey;") (List.mem_of_getElem? (i := 4) rfl)) (fun _ h9 => h9) rfl dX4_numberOf_97 ?_
    refine kr_V (As := []) (rest := []) (C := RX3) (own := RX4) ⟨hx, hb, hml, hown, hts⟩ (c_X3_pairsInWay l D cI cC cH cL v b z lk pe cn rk  (by first | assumption | omega) (by first | assumption | omega)) (cwV 0 hts gX4_numberOf_X3_pairsInWay rfl rfl rfl k_X3_pairsInWay ⟨Nat.le_of_ble_eq_true rfl, Nat.le_of_ble_eq_true rfl⟩) (hP.sub (ws' := (HW b cI z ++ SW v (b 0) cI (bI lk) pe cn rk)) [1, 2, 3, 4, 5, 6, 7, 8, 9, 10, 11, 12, 13] rfl) hK (va_recv (q := (RX3, TX3, 5)) hK hP (ci := 3) (q0 := 10) rfl rfl) rfl hl.1 rfl (Nat.le_of_ble_eq_true rfl) dX4_numberOf_100 ⟨Nat.le_of_ble_eq_true rfl, Nat.le_of_ble_eq_true rfl⟩ ?_
    have e_6 : (nI (pairsN z) : Int32) = (countI z nk 6) := by first | rfl | omega | (simp [countI, Int32.not_lt, Int32.not_le]; done) | (simp [countI, Int32.not_lt, Int32.not_le]; omega)
    exact kr_iret hx hb hrt hlocks e_6 rfl dX4_numberOf_103
  · refine lv_iload_n hx hb dX4_numberOf_0 rfl (lv_at hl 1 rfl) ?_
    refine lv_tableIn (tgt := 104) (off := 103) hx hb dX4_numberOf_1 (by decide) (by decide) (by decide) (by decide) ?_
    refine lv_aload_n hx hb dX4_numberOf_104 rfl (lv_at hl 0 rfl) ?_
    refine va_get (D := D) (ci := 4) (v := .ref (b 0)) (C := RX4) (T := TX4) (N := 5) hx hb hts iX4_numberOf_4 hown hK hP 0 rfl rfl 1 (by decide) (hts (.fieldLink RX4 20 "HallSights" "hall" "LHallSights$Hall;") (List.mem_of_getElem? (i := 1) rfl)) (fun _ h9 => h9) rfl dX4_numberOf_105 ?_
    refine kr_V (As := []) (rest := []) (C := RX0) (own := RX4) ⟨hx, hb, hml, hown, hts⟩ (c_X0_longestFree l D cI cC cH cL b z  (by first | assumption | omega)) (cwV 0 hts gX4_numberOf_X0_longestFree rfl rfl rfl k_X0_longestFree ⟨Nat.le_of_ble_eq_true rfl, Nat.le_of_ble_eq_true rfl⟩) (hP.sub (ws' := (HW b cI z)) [1, 2, 3, 4, 5, 6, 7, 8, 9] rfl) hK (va_recv (q := (RX0, TX0, 10)) hK hP (ci := 0) (q0 := 1) rfl rfl) rfl hl.1 rfl (Nat.le_of_ble_eq_true rfl) dX4_numberOf_108 ⟨Nat.le_of_ble_eq_true rfl, Nat.le_of_ble_eq_true rfl⟩ ?_
    have e_7 : (lgI z : Int32) = (countI z nk 7) := by first | rfl | omega | (simp [countI, Int32.not_lt, Int32.not_le]; done) | (simp [countI, Int32.not_lt, Int32.not_le]; omega)
    exact kr_iret hx hb hrt hlocks e_7 rfl dX4_numberOf_111
  · refine lv_iload_n hx hb dX4_numberOf_0 rfl (lv_at hl 1 rfl) ?_
    refine lv_tableOut (tgt := 112) hx hb dX4_numberOf_1 (by decide) (by decide) ?_
    refine lv_aload_n hx hb dX4_numberOf_112 rfl (lv_at hl 0 rfl) ?_
    refine va_get (D := D) (ci := 4) (v := .ref (h 0)) (C := RX4) (T := TX4) (N := 5) hx hb hts iX4_numberOf_4 hown hK hP 0 rfl rfl 3 (by decide) (hts (.fieldLink RX4 27 "HallSights" "history" "LHallSights$History;") (List.mem_of_getElem? (i := 5) rfl)) (fun _ h9 => h9) rfl dX4_numberOf_113 ?_
    refine va_get (D := D) (ci := 1) (v := .int (nI nk)) (C := RX1) (T := TX1) (N := 2) hx hb hts iX4_numberOf_1 hown hK hP 14 rfl rfl 1 (by decide) (hts (.fieldLink RX4 194 "HallSights$History" "size" "I") (List.mem_of_getElem? (i := 6) rfl)) (fun _ h9 => h9) rfl dX4_numberOf_116 ?_
    have e_8 : (nI nk : Int32) = (countI z nk 8) := by first | rfl | omega | (simp [countI, Int32.not_lt, Int32.not_le]; done) | (simp [countI, Int32.not_lt, Int32.not_le]; omega)
    exact kr_iret hx hb hrt hlocks e_8 rfl dX4_numberOf_119
