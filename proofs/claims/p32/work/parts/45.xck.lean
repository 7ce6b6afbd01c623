theorem k_X4_checkRow : yX4_checkRow.cls = RX4 ∧ yX4_checkRow.cls ≠ "java/lang/invoke/MethodHandle" ∧ yX4_checkRow.cls ≠ "java/lang/invoke/VarHandle" ∧ (parseMethodDescriptor yX4_checkRow.desc).map (fun d => d.parameters.length) = some 1 := by decide +kernel
theorem k_X4_checkRowS : yX4_checkRow.cls ≠ "java/lang/invoke/MethodHandle" ∧ yX4_checkRow.cls ≠ "java/lang/invoke/VarHandle" ∧ (parseMethodDescriptor yX4_checkRow.desc).map (fun d => d.parameters.length) = some 1 := k_X4_checkRow.2
set_option maxRecDepth 20000 in
theorem iX4_checkRow_0 : ∀ w ∈ wsX00, w ∈ wsX4_checkRow := by decide +kernel
set_option maxRecDepth 20000 in
theorem iX4_checkRow_4 : ∀ w ∈ wsX40, w ∈ wsX4_checkRow := by decide +kernel
set_option maxHeartbeats 4000000 in
set_option maxRecDepth 100000 in
theorem c_X4_checkRow (l : Launch) (D : va_G) (cI cC cH cL : ClassId) (x b v u o h t : Nat → Nat) (z : ZZ) (r0 : Nat) (hw : WF z) (hr : r0 < nR z) : Met l yX4_checkRow wsX4_checkRow ({ frames := 0, cells := 0, slots := 0, locals := 0 }) (kp [.ref (x 0), .int (nI r0)] D ([(x 0, .inr (4, [.ref (v 0), .ref (b 0), .ref (o 0), .ref (h 0), .ref (t 0)]))] ++ (HW b cI z)) (kT cI cC cH cL)) (kr (.returned none)) 0 0 (fun _ => False) := by
  refine Met.ofW (cc := cX4_checkRow) (maxL := 2) (ret := none) (by decide) rfl ?_
  intro p e s m args below meth c s₁ B hml hv
  obtain ⟨rfl, hP, hK⟩ := hv
  have hx := B.exec
  have hb := B.bytes
  have hrt := B.returns
  have hts := atoms_spec (ws := wsX4_checkRow) B.pre
  have hown : s.vm.findClass RX4 = some m.cls := findClass_of_methodNamed B.named
  have hlocks := B.notSynchronized
  have hl := lv_entry ([.ref (x 0), .int (nI r0)]) (n := 2) (Nat.le_of_ble_eq_true rfl)
  rw [lg_entry_eq]
  generalize (lg_sl ([.ref (x 0), .int (nI r0)]) ++ List.replicate (2 - (lg_sl ([.ref (x 0), .int (nI r0)])).length) Slot.unset).toArray = ls at hl ⊢
  have hl : lv_has ls 2 [(0, .ref (x 0)), (1, .int (nI r0))] := hl
  have hR10 := wf_R10 hw
  have hC4 := wf_C4 hw
  refine lv_iload_n hx hb dX4_checkRow_0 rfl (lv_at hl 1 rfl) ?_
  refine kx_if_lt (tgt := 15) hx hb (by omega) dX4_checkRow_1 (by decide) ?_
  refine lv_iload_n hx hb dX4_checkRow_4 rfl (lv_at hl 1 rfl) ?_
  refine lv_aload_n hx hb dX4_checkRow_5 rfl (lv_at hl 0 rfl) ?_
  refine va_get (D := D) (ci := 4) (v := .ref (b 0)) (C := RX4) (T := TX4) (N := 5) hx hb hts iX4_checkRow_4 hown hK hP 0 rfl rfl 1 (by decide) (hts (.fieldLink RX4 20 "HallSights" "hall" "LHallSights$Hall;") (List.mem_of_getElem? (i := 3) rfl)) (fun _ h9 => h9) rfl dX4_checkRow_6 ?_
  refine va_get (D := D) (ci := 0) (v := .int (z 3)) (C := RX0) (T := TX0) (N := 10) hx hb hts iX4_checkRow_0 hown hK hP 1 rfl rfl 0 (by decide) (hts (.fieldLink RX4 156 "HallSights$Hall" "rows" "I") (List.mem_of_getElem? (i := 4) rfl)) (fun _ h9 => h9) rfl dX4_checkRow_9 ?_
  refine kx_top (wf_R hw) ?_
  refine kx_icmp_lt (tgt := 26) hx hb (by omega) (by omega) dX4_checkRow_12 (by decide) (fun c_12_0 => ?_) (fun c => absurd c (by omega))
  exact kr_vret hx hb hrt hlocks rfl dX4_checkRow_26
set_option maxRecDepth 20000 in
theorem iX4_checkColumn_0 : ∀ w ∈ wsX00, w ∈ wsX4_checkColumn := by decide +kernel
set_option maxRecDepth 20000 in
theorem iX4_checkColumn_4 : ∀ w ∈ wsX40, w ∈ wsX4_checkColumn := by decide +kernel
set_option maxHeartbeats 4000000 in
set_option maxRecDepth 100000 in
theorem c_X4_checkColumn (l : Launch) (D : va_G) (cI cC cH cL : ClassId) (x b v u o h t : Nat → Nat) (z : ZZ) (k0 : Nat) (hw : WF z) (hk : k0 < nC z) : Met l yX4_checkColumn wsX4_checkColumn ({ frames := 0, cells := 0, slots := 0, locals := 0 }) (kp [.ref (x 0), .int (nI k0)] D ([(x 0, .inr (4, [.ref (v 0), .ref (b 0), .ref (o 0), .ref (h 0), .ref (t 0)]))] ++ (HW b cI z)) (kT cI cC cH cL)) (kr (.returned none)) 0 0 (fun _ => False) := by
  refine Met.ofW (cc := cX4_checkColumn) (maxL := 2) (ret := none) (by decide) rfl ?_
  intro p e s m args below meth c s₁ B hml hv
  obtain ⟨rfl, hP, hK⟩ := hv
  have hx := B.exec
  have hb := B.bytes
  have hrt := B.returns
  have hts := atoms_spec (ws := wsX4_checkColumn) B.pre
  have hown : s.vm.findClass RX4 = some m.cls := findClass_of_methodNamed B.named
  have hlocks := B.notSynchronized
  have hl := lv_entry ([.ref (x 0), .int (nI k0)]) (n := 2) (Nat.le_of_ble_eq_true rfl)
  rw [lg_entry_eq]
  generalize (lg_sl ([.ref (x 0), .int (nI k0)]) ++ List.replicate (2 - (lg_sl ([.ref (x 0), .int (nI k0)])).length) Slot.unset).toArray = ls at hl ⊢
  have hl : lv_has ls 2 [(0, .ref (x 0)), (1, .int (nI k0))] := hl
  have hR10 := wf_R10 hw
  have hC4 := wf_C4 hw
  refine lv_iload_n hx hb dX4_checkColumn_0 rfl (lv_at hl 1 rfl) ?_
  refine kx_if_lt (tgt := 15) hx hb (by omega) dX4_checkColumn_1 (by decide) ?_
  refine lv_iload_n hx hb dX4_checkColumn_4 rfl (lv_at hl 1 rfl) ?_
  refine lv_aload_n hx hb dX4_checkColumn_5 rfl (lv_at hl 0 rfl) ?_
  refine va_get (D := D) (ci := 4) (v := .ref (b 0)) (C := RX4) (T := TX4) (N := 5) hx hb hts iX4_checkColumn_4 hown hK hP 0 rfl rfl 1 (by decide) (hts (.fieldLink RX4 20 "HallSights" "hall" "LHallSights$Hall;") (List.mem_of_getElem? (i := 3) rfl)) (fun _ h9 => h9) rfl dX4_checkColumn_6 ?_
  refine va_get (D := D) (ci := 0) (v := .int (z 4)) (C := RX0) (T := TX0) (N := 10) hx hb hts iX4_checkColumn_0 hown hK hP 1 rfl rfl 5 (by decide) (hts (.fieldLink RX4 87 "HallSights$Hall" "columns" "I") (List.mem_of_getElem? (i := 4) rfl)) (fun _ h9 => h9) rfl dX4_checkColumn_9 ?_
  refine kx_top (wf_C hw) ?_
  refine kx_icmp_lt (tgt := 26) hx hb (by omega) (by omega) dX4_checkColumn_12 (by decide) (fun c_12_0 => ?_) (fun c => absurd c (by omega))
  exact kr_vret hx hb hrt hlocks rfl dX4_checkColumn_26
set_option maxRecDepth 20000 in
theorem iX4_checkSeat_0 : ∀ w ∈ wsX00, w ∈ wsX4_checkSeat := by decide +kernel
set_option maxRecDepth 20000 in
theorem iX4_checkSeat_4 : ∀ w ∈ wsX40, w ∈ wsX4_checkSeat := by decide +kernel
set_option maxHeartbeats 4000000 in
set_option maxRecDepth 100000 in
theorem c_X4_checkSeat (l : Launch) (D : va_G) (cI cC cH cL : ClassId) (x b v u o h t : Nat → Nat) (z : ZZ) (r0 : Nat) (s0 : Nat) (hw : WF z) (hr : r0 < nR z) (hs0 : s0 < nS z r0) : Met l yX4_checkSeat wsX4_checkSeat ({ frames := 1, cells := 0, slots := 0, locals := 21 }) (kp [.ref (x 0), .int (nI r0), .int (nI s0)] D ([(x 0, .inr (4, [.ref (v 0), .ref (b 0), .ref (o 0), .ref (h 0), .ref (t 0)]))] ++ (HW b cI z)) (kT cI cC cH cL)) (kr (.returned none)) 0 0 (fun _ => False) := by
  refine Met.ofW (cc := cX4_checkSeat) (maxL := 3) (ret := none) (by decide) rfl ?_
  intro p e s m args below meth c s₁ B hml hv
  obtain ⟨rfl, hP, hK⟩ := hv
  have hx := B.exec
  have hb := B.bytes
  have hrt := B.returns
  have hts := atoms_spec (ws := wsX4_checkSeat) B.pre
  have hown : s.vm.findClass RX4 = some m.cls := findClass_of_methodNamed B.named
  have hlocks := B.notSynchronized
  have hl := lv_entry ([.ref (x 0), .int (nI r0), .int (nI s0)]) (n := 3) (Nat.le_of_ble_eq_true rfl)
  rw [lg_entry_eq]
  generalize (lg_sl ([.ref (x 0), .int (nI r0), .int (nI s0)]) ++ List.replicate (3 - (lg_sl ([.ref (x 0), .int (nI r0), .int (nI s0)])).length) Slot.unset).toArray = ls at hl ⊢
  have hl : lv_has ls 3 [(0, .ref (x 0)), (1, .int (nI r0)), (2, .int (nI s0))] := hl
  have hR10 := wf_R10 hw
  have hC4 := wf_C4 hw
  have hS0 := wf_S12 hw hr
  refine lv_aload_n hx hb dX4_checkSeat_0 rfl (lv_at hl 0 rfl) ?_
  refine lv_iload_n hx hb dX4_checkSeat_1 rfl (lv_at hl 1 rfl) ?_
  refine kr_V (As := [.int (nI r0)]) (rest := []) (C := RX4) (own := RX4) ⟨hx, hb, hml, hown, hts⟩ (c_X4_checkRow l D cI cC cH cL x b v u o h t z r0 (by first | assumption | omega) (by first | assumption | omega)) (cwV 1 hts gX4_checkSeat_X4_checkRow rfl rfl rfl k_X4_checkRow ⟨Nat.le_of_ble_eq_true rfl, Nat.le_of_ble_eq_true rfl⟩) hP hK (va_recv (q := (RX4, TX4, 5)) hK hP (ci := 4) (q0 := 0) rfl rfl) rfl hl.1 rfl (Nat.le_of_ble_eq_true rfl) dX4_checkSeat_2 ⟨Nat.le_of_ble_eq_true rfl, Nat.le_of_ble_eq_true rfl⟩ ?_
  refine lv_iload_n hx hb dX4_checkSeat_5 rfl (lv_at hl 2 rfl) ?_
  refine kx_if_lt (tgt := 22) hx hb (by omega) dX4_checkSeat_6 (by decide) ?_
  refine lv_iload_n hx hb dX4_checkSeat_9 rfl (lv_at hl 2 rfl) ?_
  refine lv_aload_n hx hb dX4_checkSeat_10 rfl (lv_at hl 0 rfl) ?_
  refine va_get (D := D) (ci := 4) (v := .ref (b 0)) (C := RX4) (T := TX4) (N := 5) hx hb hts iX4_checkSeat_4 hown hK hP 0 rfl rfl 1 (by decide) (hts (.fieldLink RX4 20 "HallSights" "hall" "LHallSights$Hall;") (List.mem_of_getElem? (i := 3) rfl)) (fun _ h9 => h9) rfl dX4_checkSeat_11 ?_
  refine va_get (D := D) (ci := 0) (v := .ref (b 3)) (C := RX0) (T := TX0) (N := 10) hx hb hts iX4_checkSeat_0 hown hK hP 1 rfl rfl 3 (by decide) (hts (.fieldLink RX4 268 "HallSights$Hall" "seats" "[I") (List.mem_of_getElem? (i := 4) rfl)) (fun _ h9 => h9) rfl dX4_checkSeat_14 ?_
  refine lv_iload_n hx hb dX4_checkSeat_17 rfl (lv_at hl 1 rfl) ?_
  refine kx_iald hx hb hK hP 4 0 rfl rfl (by omega) (by decide) dX4_checkSeat_18 ?_
  refine kx_top (wf_S hw (show (r0) < nR z by omega)) ?_
  have hS12_0 := wf_S12 hw (show (r0) < nR z by omega)
  refine kx_icmp_lt (tgt := 33) hx hb (by omega) (by omega) dX4_checkSeat_19 (by decide) (fun c_19_1 => ?_) (fun c => absurd c (by omega))
  exact kr_vret hx hb hrt hlocks rfl dX4_checkSeat_33
set_option maxHeartbeats 4000000 in
set_option maxRecDepth 100000 in
theorem c_X4_checkSetting (l : Launch) (D : va_G) (cI cC cH cL : ClassId)  (q0 : Nat) (hq : q0 < 3) : Met l yX4_checkSetting wsX4_checkSetting ({ frames := 0, cells := 0, slots := 0, locals := 0 }) (kp [.int (nI q0)] D ([]) (kT cI cC cH cL)) (kr (.returned none)) 0 0 (fun _ => False) := by
  refine Met.ofW (cc := cX4_checkSetting) (maxL := 1) (ret := none) (by decide) rfl ?_
  intro p e s m args below meth c s₁ B hml hv
  obtain ⟨rfl, hP, hK⟩ := hv
  have hx := B.exec
  have hb := B.bytes
  have hrt := B.returns
  have hts := atoms_spec (ws := wsX4_checkSetting) B.pre
  have hown : s.vm.findClass RX4 = some m.cls := findClass_of_methodNamed B.named
  have hlocks := B.notSynchronized
  have hl := lv_entry ([.int (nI q0)]) (n := 1) (Nat.le_of_ble_eq_true rfl)
  rw [lg_entry_eq]
  generalize (lg_sl ([.int (nI q0)]) ++ List.replicate (1 - (lg_sl ([.int (nI q0)])).length) Slot.unset).toArray = ls at hl ⊢
  have hl : lv_has ls 1 [(0, .int (nI q0))] := hl
  refine lv_iload_n hx hb dX4_checkSetting_0 rfl (lv_at hl 0 rfl) ?_
  refine kx_if_lt (tgt := 9) hx hb (by omega) dX4_checkSetting_1 (by decide) ?_
  refine lv_iload_n hx hb dX4_checkSetting_4 rfl (lv_at hl 0 rfl) ?_
  refine lv_iconst (v := nI 3) hx hb dX4_checkSetting_5 (by decide) ?_
  refine kx_icmp_lt (tgt := 20) hx hb (by omega) (by omega) dX4_checkSetting_6 (by decide) (fun c_6_0 => ?_) (fun c => absurd c (by omega))
  exact kr_vret hx hb hrt hlocks rfl dX4_checkSetting_20
set_option maxHeartbeats 4000000 in
set_option maxRecDepth 100000 in
theorem c_X4_checkHeight (l : Launch) (D : va_G) (cI cC cH cL : ClassId)  (h0 : Nat) (hh : h0 ≤ 999) : Met l yX4_checkHeight wsX4_checkHeight ({ frames := 0, cells := 0, slots := 0, locals := 0 }) (kp [.int (nI h0)] D ([]) (kT cI cC cH cL)) (kr (.returned none)) 0 0 (fun _ => False) := by
  refine Met.ofW (cc := cX4_checkHeight) (maxL := 1) (ret := none) (by decide) rfl ?_
  intro p e s m args below meth c s₁ B hml hv
  obtain ⟨rfl, hP, hK⟩ := hv
  have hx := B.exec
  have hb := B.bytes
  have hrt := B.returns
  have hts := atoms_spec (ws := wsX4_checkHeight) B.pre
  have hown : s.vm.findClass RX4 = some m.cls := findClass_of_methodNamed B.named
  have hlocks := B.notSynchronized
  have hl := lv_entry ([.int (nI h0)]) (n := 1) (Nat.le_of_ble_eq_true rfl)
  rw [lg_entry_eq]
  generalize (lg_sl ([.int (nI h0)]) ++ List.replicate (1 - (lg_sl ([.int (nI h0)])).length) Slot.unset).toArray = ls at hl ⊢
  have hl : lv_has ls 1 [(0, .int (nI h0))] := hl
  refine lv_iload_n hx hb dX4_checkHeight_0 rfl (lv_at hl 0 rfl) ?_
  refine kx_if_lt (tgt := 11) hx hb (by omega) dX4_checkHeight_1 (by decide) ?_
  refine lv_iload_n hx hb dX4_checkHeight_4 rfl (lv_at hl 0 rfl) ?_
  refine lv_sipush (v := nI 999) hx hb dX4_checkHeight_5 (by decide) ?_
  refine kx_icmp_le (tgt := 22) hx hb (by omega) (by omega) dX4_checkHeight_8 (by decide) (fun c_8_0 => ?_) (fun c => absurd c (by omega))
  exact kr_vret hx hb hrt hlocks rfl dX4_checkHeight_22
set_option maxHeartbeats 4000000 in
set_option maxRecDepth 100000 in
theorem c_X4_checkWhat (l : Launch) (D : va_G) (cI cC cH cL : ClassId)  (wh : Nat) (pn : Nat) (hp : wh < pn) (hp9 : pn ≤ 1000) : Met l yX4_checkWhat wsX4_checkWhat ({ frames := 0, cells := 0, slots := 0, locals := 0 }) (kp [.int (nI wh), .int (nI pn)] D ([]) (kT cI cC cH cL)) (kr (.returned none)) 0 0 (fun _ => False) := by
  refine Met.ofW (cc := cX4_checkWhat) (maxL := 2) (ret := none) (by decide) rfl ?_
  intro p e s m args below meth c s₁ B hml hv
  obtain ⟨rfl, hP, hK⟩ := hv
  have hx := B.exec
  have hb := B.bytes
  have hrt := B.returns
  have hts := atoms_spec (ws := wsX4_checkWhat) B.pre
  have hown : s.vm.findClass RX4 = some m.cls := findClass_of_methodNamed B.named
  have hlocks := B.notSynchronized
  have hl := lv_entry ([.int (nI wh), .int (nI pn)]) (n := 2) (Nat.le_of_ble_eq_true rfl)
  rw [lg_entry_eq]
  generalize (lg_sl ([.int (nI wh), .int (nI pn)]) ++ List.replicate (2 - (lg_sl ([.int (nI wh), .int (nI pn)])).length) Slot.unset).toArray = ls at hl ⊢
  have hl : lv_has ls 2 [(0, .int (nI wh)), (1, .int (nI pn))] := hl
  refine lv_iload_n hx hb dX4_checkWhat_0 rfl (lv_at hl 0 rfl) ?_
  refine kx_if_lt (tgt := 9) hx hb (by omega) dX4_checkWhat_1 (by decide) ?_
  refine lv_iload_n hx hb dX4_checkWhat_4 rfl (lv_at hl 0 rfl) ?_
  refine lv_iload_n hx hb dX4_checkWhat_5 rfl (lv_at hl 1 rfl) ?_
  refine kx_icmp_lt (tgt := 20) hx hb (by omega) (by omega) dX4_checkWhat_6 (by decide) (fun c_6_0 => ?_) (fun c => absurd c (by omega))
  exact kr_vret hx hb hrt hlocks rfl dX4_checkWhat_20
