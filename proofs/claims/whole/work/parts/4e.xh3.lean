theorem k_X4_checkWhat : yX4_checkWhat.cls = RX4 ∧ yX4_checkWhat.cls ≠ "java/lang/invoke/MethodHandle" ∧ yX4_checkWhat.cls ≠ "java/lang/invoke/VarHandle" ∧ (parseMethodDescriptor yX4_checkWhat.desc).map (fun d => d.parameters.length) = some 2 := by decide +kernel
theorem k_X4_checkWhatS : yX4_checkWhat.cls ≠ "java/lang/invoke/MethodHandle" ∧ yX4_checkWhat.cls ≠ "java/lang/invoke/VarHandle" ∧ (parseMethodDescriptor yX4_checkWhat.desc).map (fun d => d.parameters.length) = some 2 := k_X4_checkWhat.2
set_option maxRecDepth 20000 in
theorem iX4_row_4 : ∀ w ∈ wsX40, w ∈ wsX4_row := by decide +kernel
set_option maxHeartbeats 4000000 in
set_option maxRecDepth 100000 in
theorem c_X4_row (l : Launch) (hst : l.stackTraces = false) (D : va_G) (cI cC cH cL : ClassId) (y : Nat → Nat) (x b v u o h t : Nat → Nat) (z : ZZ) (lk : Bool) (pe cn rk : ZZ) (ro : Int32) (wh : Int32) (hw : WF z) (hws : WS z) (hv : VT z) (hL0 : lk = true → LKR z pe cn rk) : vx_Met l yX4_row wsX4_row ({ frames := 7, cells := 2, slots := 12, locals := 115 }) (kwx y [.ref (x 0), .int ro, .int wh] D ([(x 0, .inr (4, [.ref (v 0), .ref (b 0), .ref (o 0), .ref (h 0), .ref (t 0)]))] ++ (HW b cI z ++ (SW v (b 0) cI (bI lk) pe cn rk))) (kT cI cC cH cL)) (kqx D ([(x 0, .inr (4, [.ref (v 0), .ref (b 0), .ref (o 0), .ref (h 0), .ref (t 0)]))] ++ (HW b cI z ++ (SW v (b 0) cI (bI lk) pe cn rk))) (tRowW z ro wh) ([(x 0, .inr (4, [.ref (v 0), .ref (b 0), .ref (o 0), .ref (h 0), .ref (t 0)]))] ++ (HW b cI z ++ (SW v (b 0) cI (bI true) (lkP lk (people z) z pe) (lkP lk ((fun r s => colsW z r s (-1))) z cn) (lkP lk (rkN z) z rk)))) (.returned (some (.int (rowNowI z (cl ro) (cl wh)))))) (kX D ([(x 0, .inr (4, [.ref (v 0), .ref (b 0), .ref (o 0), .ref (h 0), .ref (t 0)]))] ++ (HW b cI z ++ (SW v (b 0) cI (bI lk) pe cn rk))) "java/lang/IndexOutOfBoundsException" "java/lang/IllegalArgumentException" (tRowW z ro wh) ([(x 0, .inr (4, [.ref (v 0), .ref (b 0), .ref (o 0), .ref (h 0), .ref (t 0)]))] ++ (HW b cI z ++ (SW v (b 0) cI (bI lk) pe cn rk)))) 2 12 (kA ([(x 0, .inr (4, [.ref (v 0), .ref (b 0), .ref (o 0), .ref (h 0), .ref (t 0)]))] ++ (HW b cI z ++ (SW v (b 0) cI (bI lk) pe cn rk)))) := by
  refine vx_ofW (cc := cX4_row) (maxL := 3) (ret := (some .int)) (by decide) rfl ?_
  intro p e s m args below meth c s₁ B hml hxt hv
  obtain ⟨⟨rfl, hP, hK, hD0⟩, hX9, hF⟩ := hv
  have hx := B.exec
  have hb := B.bytes
  have hrt := B.returns
  have hts := atoms_spec (ws := wsX4_row) B.pre
  have hown : s.vm.findClass RX4 = some m.cls := findClass_of_methodNamed B.named
  have hlocks := B.notSynchronized
  have hl := lv_entry ([.ref (x 0), .int ro, .int wh]) (n := 3) (Nat.le_of_ble_eq_true rfl)
  rw [lg_entry_eq]
  generalize (lg_sl ([.ref (x 0), .int ro, .int wh]) ++ List.replicate (3 - (lg_sl ([.ref (x 0), .int ro, .int wh])).length) Slot.unset).toArray = ls at hl ⊢
  have hl : lv_has ls 3 [(0, .ref (x 0)), (1, .int ro), (2, .int wh)] := hl
  have hD := kA_self hD0
  obtain ⟨w0, hw0⟩ : ∃ w : va_W, w = [(x 0, .inr (4, [.ref (v 0), .ref (b 0), .ref (o 0), .ref (h 0), .ref (t 0)]))] ++ (HW b cI z ++ (SW v (b 0) cI (bI lk) pe cn rk)) := ⟨_, rfl⟩
  have hD : va_D (kA w0) ([(x 0, .inr (4, [.ref (v 0), .ref (b 0), .ref (o 0), .ref (h 0), .ref (t 0)]))] ++ (HW b cI z ++ (SW v (b 0) cI (bI lk) pe cn rk))) := by rw [hw0]; exact hD
  have hS : va_S (kA w0) s.heap s.heap [] := va_S.rf
  have hXx : hX y (kA w0) s s.heap := by rw [hw0]; exact hX9
  have hZ := hXx.1
  rw [show kA ([(x 0, .inr (4, [.ref (v 0), .ref (b 0), .ref (o 0), .ref (h 0), .ref (t 0)]))] ++ (HW b cI z ++ (SW v (b 0) cI (bI lk) pe cn rk))) = kA w0 from by rw [hw0], show kqx D ([(x 0, .inr (4, [.ref (v 0), .ref (b 0), .ref (o 0), .ref (h 0), .ref (t 0)]))] ++ (HW b cI z ++ (SW v (b 0) cI (bI lk) pe cn rk))) = kqx D w0 from by rw [hw0], show kX D ([(x 0, .inr (4, [.ref (v 0), .ref (b 0), .ref (o 0), .ref (h 0), .ref (t 0)]))] ++ (HW b cI z ++ (SW v (b 0) cI (bI lk) pe cn rk))) = kX D w0 from by rw [hw0]]
  have hP : va_P D vwCl ([(x 0, .inr (4, [.ref (v 0), .ref (b 0), .ref (o 0), .ref (h 0), .ref (t 0)]))] ++ (HW b cI z ++ (SW v (b 0) cI (bI lk) pe cn rk))) s.heap := hP
  have hR10 := wf_R10 hw
  have hC4 := wf_C4 hw
  have hLU := lkr_P hw (lk := lk) (pe := pe) (cn := cn) (rk := rk) hL0
  have hR1000 : nR z ≤ 1000 := by omega
  refine lv_aload_n hx hb dX4_row_0 rfl (lv_at hl 0 rfl) ?_
  refine lv_iload_n hx hb dX4_row_1 rfl (lv_at hl 1 rfl) ?_
  refine kxV (As := [.int ro]) (rest := []) (C := RX4) (own := RX4) ⟨hx, hb, hml, hown, hts⟩ (c_X4_checkRow l hst D cI cC cH cL y x b v u o h t z ro (by first | assumption | omega)) (cwV 1 hts gX4_row_X4_checkRow rfl rfl rfl k_X4_checkRow ⟨Nat.le_of_ble_eq_true rfl, Nat.le_of_ble_eq_true rfl⟩) hP hD hK hS hXx hF [0, 1, 2, 3, 4, 5, 6, 7, 8, 9] [10, 11, 12, 13] rfl rfl (wr := (SW v (b 0) cI (bI lk) pe cn rk)) rfl (by decide) (by decide) (by decide) (va_recv (q := (RX4, TX4, 5)) hK hP (ci := 4) (q0 := 0) rfl rfl) rfl hl.1 rfl (Nat.le_of_ble_eq_true rfl) dX4_row_2 ⟨Nat.le_of_ble_eq_true rfl, Nat.le_of_ble_eq_true rfl⟩ (fun E9 ce9 q9 H locs hE hP hD hS hq1 hq2 hq3 => ?_) (fun H locs hT9 hP hD hS => ?_)
  · obtain ⟨hb2_0, rfl⟩ := xE_1 hE
    have hP : va_P D vwCl ([(x 0, .inr (4, [.ref (v 0), .ref (b 0), .ref (o 0), .ref (h 0), .ref (t 0)]))] ++ (HW b cI z ++ (SW v (b 0) cI (bI lk) pe cn rk))) H := hP.sub [4, 5, 6, 7, 8, 9, 10, 11, 12, 13, 0, 1, 2, 3] rfl
    have hD : va_D (kA w0) ([(x 0, .inr (4, [.ref (v 0), .ref (b 0), .ref (o 0), .ref (h 0), .ref (t 0)]))] ++ (HW b cI z ++ (SW v (b 0) cI (bI lk) pe cn rk))) := hD.sub [4, 5, 6, 7, 8, 9, 10, 11, 12, 13, 0, 1, 2, 3] (by decide) rfl
    have hT9 : (tRowW z ro wh : Nat) = 1 := by first | rfl | omega | (simp [tRowW, Int32.not_lt, Int32.not_le, hb2_0]; done) | (simp [tRowW, Int32.not_lt, Int32.not_le, hb2_0]; omega) | (revert hb2_0; simp +contextual [tRowW, Int32.not_lt, Int32.not_le]; done) | (revert hb2_0; simp +contextual [tRowW, Int32.not_lt, Int32.not_le]; omega)
    subst hw0
    exact kxO hxt hlocks (Or.inl ⟨hT9, rfl⟩) hP hD hS hq1 hq2 hq3 (Nat.le_of_ble_eq_true rfl) (Nat.le_of_ble_eq_true rfl)
  · have hb2_0 := t0_t hT9
    have hP : va_P D vwCl ([(x 0, .inr (4, [.ref (v 0), .ref (b 0), .ref (o 0), .ref (h 0), .ref (t 0)]))] ++ (HW b cI z ++ (SW v (b 0) cI (bI lk) pe cn rk))) H := hP.sub [4, 5, 6, 7, 8, 9, 10, 11, 12, 13, 0, 1, 2, 3] rfl
    have hD : va_D (kA w0) ([(x 0, .inr (4, [.ref (v 0), .ref (b 0), .ref (o 0), .ref (h 0), .ref (t 0)]))] ++ (HW b cI z ++ (SW v (b 0) cI (bI lk) pe cn rk))) := hD.sub [4, 5, 6, 7, 8, 9, 10, 11, 12, 13, 0, 1, 2, 3] (by decide) rfl
    obtain ⟨r0, hr0, rfl⟩ := isRow_out hw hb2_0
    have hc_r0 : cl (nI r0) = r0 := cl_nI (show r0 < 2 ^ 31 by omega)
    refine lv_iload_n hx hb dX4_row_5 rfl (lv_at hl 2 rfl) ?_
    refine lv_bipush (v := nI 6) hx hb dX4_row_6 (by decide) ?_
    refine kxS (As := [.int wh, .int (nI 6)]) (rest := []) (own := RX4) ⟨hx, hb, hml, hown, hts⟩ (c_X4_checkWhat l hst D cI cC cH cL y  wh 6 (by first | assumption | omega)) (va_cwS 2 hts gX4_row_X4_checkWhat rfl rfl rfl k_X4_checkWhatS ⟨Nat.le_of_ble_eq_true rfl, Nat.le_of_ble_eq_true rfl⟩) hP hD hK hS hXx hF [] [0, 1, 2, 3, 4, 5, 6, 7, 8, 9, 10, 11, 12, 13] rfl rfl (wr := ([(x 0, .inr (4, [.ref (v 0), .ref (b 0), .ref (o 0), .ref (h 0), .ref (t 0)]))] ++ (HW b cI z ++ (SW v (b 0) cI (bI lk) pe cn rk)))) rfl (by decide) (by decide) (by decide) rfl hl.1 rfl (Nat.le_of_ble_eq_true rfl) dX4_row_8 ⟨Nat.le_of_ble_eq_true rfl, Nat.le_of_ble_eq_true rfl⟩ (fun E9 ce9 q9 H locs hE hP hD hS hq1 hq2 hq3 => ?_) (fun H locs hT9 hP hD hS => ?_)
    · obtain ⟨hb8_1, rfl⟩ := xE_1 hE
      have hP : va_P D vwCl ([(x 0, .inr (4, [.ref (v 0), .ref (b 0), .ref (o 0), .ref (h 0), .ref (t 0)]))] ++ (HW b cI z ++ (SW v (b 0) cI (bI lk) pe cn rk))) H := hP.sub [0, 1, 2, 3, 4, 5, 6, 7, 8, 9, 10, 11, 12, 13] rfl
      have hD : va_D (kA w0) ([(x 0, .inr (4, [.ref (v 0), .ref (b 0), .ref (o 0), .ref (h 0), .ref (t 0)]))] ++ (HW b cI z ++ (SW v (b 0) cI (bI lk) pe cn rk))) := hD.sub [0, 1, 2, 3, 4, 5, 6, 7, 8, 9, 10, 11, 12, 13] (by decide) rfl
      have hT9 : (tRowW z (nI r0) wh : Nat) = 2 := by first | rfl | omega | (simp [tRowW, Int32.not_lt, Int32.not_le, hb2_0, hc_r0, hb8_1, wtq (n := 5) hb8_1]; done) | (simp [tRowW, Int32.not_lt, Int32.not_le, hb2_0, hc_r0, hb8_1, wtq (n := 5) hb8_1]; omega) | (revert hb2_0 hc_r0 hb8_1; simp +contextual [tRowW, Int32.not_lt, Int32.not_le]; done) | (revert hb2_0 hc_r0 hb8_1; simp +contextual [tRowW, Int32.not_lt, Int32.not_le]; omega)
      subst hw0
      exact kxO hxt hlocks (Or.inr ⟨hT9, rfl⟩) hP hD hS hq1 hq2 hq3 (Nat.le_of_ble_eq_true rfl) (Nat.le_of_ble_eq_true rfl)
    · have hb8_1 := t0_t hT9
      have hP : va_P D vwCl ([(x 0, .inr (4, [.ref (v 0), .ref (b 0), .ref (o 0), .ref (h 0), .ref (t 0)]))] ++ (HW b cI z ++ (SW v (b 0) cI (bI lk) pe cn rk))) H := hP.sub [0, 1, 2, 3, 4, 5, 6, 7, 8, 9, 10, 11, 12, 13] rfl
      have hD : va_D (kA w0) ([(x 0, .inr (4, [.ref (v 0), .ref (b 0), .ref (o 0), .ref (h 0), .ref (t 0)]))] ++ (HW b cI z ++ (SW v (b 0) cI (bI lk) pe cn rk))) := hD.sub [0, 1, 2, 3, 4, 5, 6, 7, 8, 9, 10, 11, 12, 13] (by decide) rfl
      obtain ⟨wq, hwq, rfl⟩ := (fun h => wthn6_out (wtq (n := 5) h)) hb8_1
      have hc_wq : cl (nI wq) = wq := cl_nI (show wq < 2 ^ 31 by omega)
      refine lv_aload_n hx hb dX4_row_11 rfl (lv_at hl 0 rfl) ?_
      refine va_get (D := D) (ci := 4) (v := .ref (v 0)) (C := RX4) (T := TX4) (N := 5) hx hb hts iX4_row_4 hown hK hP 0 rfl rfl 0 (by decide) (hts (.fieldLink RX4 10 "HallSights" "survey" "LHallSights$Survey;") (List.mem_of_getElem? (i := 1) rfl)) (fun _ h9 => h9) rfl dX4_row_12 ?_
      refine kw_V (As := []) (rest := []) (C := RX3) (own := RX4) ⟨hx, hb, hml, hown, hts⟩ (c_X3_look l D cI cC cH cL v b z lk pe cn rk  (by first | assumption | omega) (by first | assumption | omega)) (cwV 0 hts gX4_row_X3_look rfl rfl rfl k_X3_look ⟨Nat.le_of_ble_eq_true rfl, Nat.le_of_ble_eq_true rfl⟩) hP hD hK hS [1, 2, 3, 4, 5, 6, 7, 8, 9, 10, 11, 12, 13] [0] rfl rfl (wr := ([(x 0, .inr (4, [.ref (v 0), .ref (b 0), .ref (o 0), .ref (h 0), .ref (t 0)]))])) rfl (by decide) (by decide) (by decide) (va_recv (q := (RX3, TX3, 5)) hK hP (ci := 3) (q0 := 10) rfl rfl) rfl hl.1 rfl (Nat.le_of_ble_eq_true rfl) dX4_row_15 ⟨Nat.le_of_ble_eq_true rfl, Nat.le_of_ble_eq_true rfl⟩ (fun H locs hP hD hS => ?_)
      have hP : va_P D vwCl ([(x 0, .inr (4, [.ref (v 0), .ref (b 0), .ref (o 0), .ref (h 0), .ref (t 0)]))] ++ (HW b cI z ++ (SW v (b 0) cI (bI true) (lkP lk (people z) z pe) (lkP lk ((fun r s => colsW z r s (-1))) z cn) (lkP lk (rkN z) z rk)))) H := hP.sub [0, 1, 2, 3, 4, 5, 6, 7, 8, 9, 10, 11, 12, 13] rfl
      have hD : va_D (kA w0) ([(x 0, .inr (4, [.ref (v 0), .ref (b 0), .ref (o 0), .ref (h 0), .ref (t 0)]))] ++ (HW b cI z ++ (SW v (b 0) cI (bI true) (lkP lk (people z) z pe) (lkP lk ((fun r s => colsW z r s (-1))) z cn) (lkP lk (rkN z) z rk)))) := hD.sub [0, 1, 2, 3, 4, 5, 6, 7, 8, 9, 10, 11, 12, 13] (by decide) rfl
      refine lv_aload_n hx hb dX4_row_18 rfl (lv_at hl 0 rfl) ?_
      refine lv_iload_n hx hb dX4_row_19 rfl (lv_at hl 1 rfl) ?_
      refine lv_iload_n hx hb dX4_row_20 rfl (lv_at hl 2 rfl) ?_
      refine kr_V (As := [.int (nI r0), .int (nI wq)]) (rest := []) (C := RX4) (own := RX4) ⟨hx, hb, hml, hown, hts⟩ (c_X4_rowProperty l D cI cC cH cL x b v u o h t z true (lkP lk (people z) z pe) (lkP lk ((fun r s => colsW z r s (-1))) z cn) (lkP lk (rkN z) z rk) r0 wq (by first | assumption | omega) (by first | assumption | omega) (by first | assumption | omega) (by first | assumption | omega) (by exact hLU)) (cwV 2 hts gX4_row_X4_rowProperty rfl rfl rfl k_X4_rowProperty ⟨Nat.le_of_ble_eq_true rfl, Nat.le_of_ble_eq_true rfl⟩) hP hK (va_recv (q := (RX4, TX4, 5)) hK hP (ci := 4) (q0 := 0) rfl rfl) rfl hl.1 rfl (Nat.le_of_ble_eq_true rfl) dX4_row_21 ⟨Nat.le_of_ble_eq_true rfl, Nat.le_of_ble_eq_true rfl⟩ ?_
      have e_2 : (rowNowI z r0 wq : Int32) = (rowNowI z (cl (nI r0)) (cl (nI wq))) := by first | rfl | omega | (simp [tRowW, Int32.not_lt, Int32.not_le, hb2_0, hc_r0, wtq (n := 5) hb8_1, hb8_1, hc_wq]; done) | (simp [tRowW, Int32.not_lt, Int32.not_le, hb2_0, hc_r0, wtq (n := 5) hb8_1, hb8_1, hc_wq]; omega) | (revert hb2_0 hc_r0 hb8_1 hc_wq; simp +contextual [tRowW, Int32.not_lt, Int32.not_le]; done) | (revert hb2_0 hc_r0 hb8_1 hc_wq; simp +contextual [tRowW, Int32.not_lt, Int32.not_le]; omega)
      have hT9 : (tRowW z (nI r0) (nI wq) : Nat) = 0 := by first | rfl | omega | (simp [tRowW, Int32.not_lt, Int32.not_le, hb2_0, hc_r0, wtq (n := 5) hb8_1, hb8_1, hc_wq]; done) | (simp [tRowW, Int32.not_lt, Int32.not_le, hb2_0, hc_r0, wtq (n := 5) hb8_1, hb8_1, hc_wq]; omega) | (revert hb2_0 hc_r0 hb8_1 hc_wq; simp +contextual [tRowW, Int32.not_lt, Int32.not_le]; done) | (revert hb2_0 hc_r0 hb8_1 hc_wq; simp +contextual [tRowW, Int32.not_lt, Int32.not_le]; omega)
      subst hw0
      exact kX_iret hx hb hrt hlocks hT9 e_2 hP hD hS ⟨Nat.le_of_ble_eq_true rfl, Nat.le_of_ble_eq_true rfl⟩ dX4_row_24
set_option maxRecDepth 20000 in
theorem iX4_seat_4 : ∀ w ∈ wsX40, w ∈ wsX4_seat := by decide +kernel
set_option maxHeartbeats 4000000 in
set_option maxRecDepth 100000 in
theorem c_X4_seat (l : Launch) (hst : l.stackTraces = false) (D : va_G) (cI cC cH cL : ClassId) (y : Nat → Nat) (x b v u o h t : Nat → Nat) (z : ZZ) (lk : Bool) (pe cn rk : ZZ) (ro : Int32) (se : Int32) (wh : Int32) (hw : WF z) (hws : WS z) (hv : VT z) (hL0 : lk = true → LKR z pe cn rk) : vx_Met l yX4_seat wsX4_seat ({ frames := 8, cells := 3, slots := 18, locals := 125 }) (kwx y [.ref (x 0), .int ro, .int se, .int wh] D ([(x 0, .inr (4, [.ref (v 0), .ref (b 0), .ref (o 0), .ref (h 0), .ref (t 0)]))] ++ (HW b cI z ++ (SW v (b 0) cI (bI lk) pe cn rk))) (kT cI cC cH cL)) (kqx D ([(x 0, .inr (4, [.ref (v 0), .ref (b 0), .ref (o 0), .ref (h 0), .ref (t 0)]))] ++ (HW b cI z ++ (SW v (b 0) cI (bI lk) pe cn rk))) (tSeatW z ro se wh) ([(x 0, .inr (4, [.ref (v 0), .ref (b 0), .ref (o 0), .ref (h 0), .ref (t 0)]))] ++ (HW b cI z ++ (SW v (b 0) cI (bI true) (lkP lk (people z) z pe) (lkP lk ((fun r s => colsW z r s (-1))) z cn) (lkP lk (rkN z) z rk)))) (.returned (some (.int (seatC z (cl ro) (cl se) (cl wh)))))) (kX D ([(x 0, .inr (4, [.ref (v 0), .ref (b 0), .ref (o 0), .ref (h 0), .ref (t 0)]))] ++ (HW b cI z ++ (SW v (b 0) cI (bI lk) pe cn rk))) "java/lang/IndexOutOfBoundsException" "java/lang/IllegalArgumentException" (tSeatW z ro se wh) ([(x 0, .inr (4, [.ref (v 0), .ref (b 0), .ref (o 0), .ref (h 0), .ref (t 0)]))] ++ (HW b cI z ++ (SW v (b 0) cI (bI lk) pe cn rk)))) 3 18 (kA ([(x 0, .inr (4, [.ref (v 0), .ref (b 0), .ref (o 0), .ref (h 0), .ref (t 0)]))] ++ (HW b cI z ++ (SW v (b 0) cI (bI lk) pe cn rk)))) := by
  refine vx_ofW (cc := cX4_seat) (maxL := 4) (ret := (some .int)) (by decide) rfl ?_
  intro p e s m args below meth c s₁ B hml hxt hv
  obtain ⟨⟨rfl, hP, hK, hD0⟩, hX9, hF⟩ := hv
  have hx := B.exec
  have hb := B.bytes
  have hrt := B.returns
  have hts := atoms_spec (ws := wsX4_seat) B.pre
  have hown : s.vm.findClass RX4 = some m.cls := findClass_of_methodNamed B.named
  have hlocks := B.notSynchronized
  have hl := lv_entry ([.ref (x 0), .int ro, .int se, .int wh]) (n := 4) (Nat.le_of_ble_eq_true rfl)
  rw [lg_entry_eq]
  generalize (lg_sl ([.ref (x 0), .int ro, .int se, .int wh]) ++ List.replicate (4 - (lg_sl ([.ref (x 0), .int ro, .int se, .int wh])).length) Slot.unset).toArray = ls at hl ⊢
  have hl : lv_has ls 4 [(0, .ref (x 0)), (1, .int ro), (2, .int se), (3, .int wh)] := hl
  have hD := kA_self hD0
  obtain ⟨w0, hw0⟩ : ∃ w : va_W, w = [(x 0, .inr (4, [.ref (v 0), .ref (b 0), .ref (o 0), .ref (h 0), .ref (t 0)]))] ++ (HW b cI z ++ (SW v (b 0) cI (bI lk) pe cn rk)) := ⟨_, rfl⟩
  have hD : va_D (kA w0) ([(x 0, .inr (4, [.ref (v 0), .ref (b 0), .ref (o 0), .ref (h 0), .ref (t 0)]))] ++ (HW b cI z ++ (SW v (b 0) cI (bI lk) pe cn rk))) := by rw [hw0]; exact hD
  have hS : va_S (kA w0) s.heap s.heap [] := va_S.rf
  have hXx : hX y (kA w0) s s.heap := by rw [hw0]; exact hX9
  have hZ := hXx.1
  rw [show kA ([(x 0, .inr (4, [.ref (v 0), .ref (b 0), .ref (o 0), .ref (h 0), .ref (t 0)]))] ++ (HW b cI z ++ (SW v (b 0) cI (bI lk) pe cn rk))) = kA w0 from by rw [hw0], show kqx D ([(x 0, .inr (4, [.ref (v 0), .ref (b 0), .ref (o 0), .ref (h 0), .ref (t 0)]))] ++ (HW b cI z ++ (SW v (b 0) cI (bI lk) pe cn rk))) = kqx D w0 from by rw [hw0], show kX D ([(x 0, .inr (4, [.ref (v 0), .ref (b 0), .ref (o 0), .ref (h 0), .ref (t 0)]))] ++ (HW b cI z ++ (SW v (b 0) cI (bI lk) pe cn rk))) = kX D w0 from by rw [hw0]]
  have hP : va_P D vwCl ([(x 0, .inr (4, [.ref (v 0), .ref (b 0), .ref (o 0), .ref (h 0), .ref (t 0)]))] ++ (HW b cI z ++ (SW v (b 0) cI (bI lk) pe cn rk))) s.heap := hP
  have hR10 := wf_R10 hw
  have hC4 := wf_C4 hw
  have hLU := lkr_P hw (lk := lk) (pe := pe) (cn := cn) (rk := rk) hL0
  have hR1000 : nR z ≤ 1000 := by omega
  refine lv_aload_n hx hb dX4_seat_0 rfl (lv_at hl 0 rfl) ?_
  refine lv_iload_n hx hb dX4_seat_1 rfl (lv_at hl 1 rfl) ?_
  refine lv_iload_n hx hb dX4_seat_2 rfl (lv_at hl 2 rfl) ?_
  refine kxV (As := [.int ro, .int se]) (rest := []) (C := RX4) (own := RX4) ⟨hx, hb, hml, hown, hts⟩ (c_X4_checkSeat l hst D cI cC cH cL y x b v u o h t z ro se (by first | assumption | omega)) (cwV 2 hts gX4_seat_X4_checkSeat rfl rfl rfl k_X4_checkSeat ⟨Nat.le_of_ble_eq_true rfl, Nat.le_of_ble_eq_true rfl⟩) hP hD hK hS hXx hF [0, 1, 2, 3, 4, 5, 6, 7, 8, 9] [10, 11, 12, 13] rfl rfl (wr := (SW v (b 0) cI (bI lk) pe cn rk)) rfl (by decide) (by decide) (by decide) (va_recv (q := (RX4, TX4, 5)) hK hP (ci := 4) (q0 := 0) rfl rfl) rfl hl.1 rfl (Nat.le_of_ble_eq_true rfl) dX4_seat_3 ⟨Nat.le_of_ble_eq_true rfl, Nat.le_of_ble_eq_true rfl⟩ (fun E9 ce9 q9 H locs hE hP hD hS hq1 hq2 hq3 => ?_) (fun H locs hT9 hP hD hS => ?_)
  · obtain ⟨hb3_0, rfl⟩ := xE_1 hE
    have hP : va_P D vwCl ([(x 0, .inr (4, [.ref (v 0), .ref (b 0), .ref (o 0), .ref (h 0), .ref (t 0)]))] ++ (HW b cI z ++ (SW v (b 0) cI (bI lk) pe cn rk))) H := hP.sub [4, 5, 6, 7, 8, 9, 10, 11, 12, 13, 0, 1, 2, 3] rfl
    have hD : va_D (kA w0) ([(x 0, .inr (4, [.ref (v 0), .ref (b 0), .ref (o 0), .ref (h 0), .ref (t 0)]))] ++ (HW b cI z ++ (SW v (b 0) cI (bI lk) pe cn rk))) := hD.sub [4, 5, 6, 7, 8, 9, 10, 11, 12, 13, 0, 1, 2, 3] (by decide) rfl
    have hT9 : (tSeatW z ro se wh : Nat) = 1 := by first | rfl | omega | (simp [tSeatW, Int32.not_lt, Int32.not_le, hb3_0]; done) | (simp [tSeatW, Int32.not_lt, Int32.not_le, hb3_0]; omega) | (revert hb3_0; simp +contextual [tSeatW, Int32.not_lt, Int32.not_le]; done) | (revert hb3_0; simp +contextual [tSeatW, Int32.not_lt, Int32.not_le]; omega)
    subst hw0
    exact kxO hxt hlocks (Or.inl ⟨hT9, rfl⟩) hP hD hS hq1 hq2 hq3 (Nat.le_of_ble_eq_true rfl) (Nat.le_of_ble_eq_true rfl)
  · have hb3_0 := t0_t hT9
    have hP : va_P D vwCl ([(x 0, .inr (4, [.ref (v 0), .ref (b 0), .ref (o 0), .ref (h 0), .ref (t 0)]))] ++ (HW b cI z ++ (SW v (b 0) cI (bI lk) pe cn rk))) H := hP.sub [4, 5, 6, 7, 8, 9, 10, 11, 12, 13, 0, 1, 2, 3] rfl
    have hD : va_D (kA w0) ([(x 0, .inr (4, [.ref (v 0), .ref (b 0), .ref (o 0), .ref (h 0), .ref (t 0)]))] ++ (HW b cI z ++ (SW v (b 0) cI (bI lk) pe cn rk))) := hD.sub [4, 5, 6, 7, 8, 9, 10, 11, 12, 13, 0, 1, 2, 3] (by decide) rfl
    obtain ⟨r0, s0, hr0, hs0, rfl, rfl⟩ := isSeat_out hw hb3_0
    have hS0 := wf_S12 hw hr0
    have hc_r0 : cl (nI r0) = r0 := cl_nI (show r0 < 2 ^ 31 by omega)
    have hc_s0 : cl (nI s0) = s0 := cl_nI (show s0 < 2 ^ 31 by omega)
    refine lv_iload_n hx hb dX4_seat_6 rfl (lv_at hl 3 rfl) ?_
    refine lv_bipush (v := nI 7) hx hb dX4_seat_7 (by decide) ?_
    refine kxS (As := [.int wh, .int (nI 7)]) (rest := []) (own := RX4) ⟨hx, hb, hml, hown, hts⟩ (c_X4_checkWhat l hst D cI cC cH cL y  wh 7 (by first | assumption | omega)) (va_cwS 2 hts gX4_seat_X4_checkWhat rfl rfl rfl k_X4_checkWhatS ⟨Nat.le_of_ble_eq_true rfl, Nat.le_of_ble_eq_true rfl⟩) hP hD hK hS hXx hF [] [0, 1, 2, 3, 4, 5, 6, 7, 8, 9, 10, 11, 12, 13] rfl rfl (wr := ([(x 0, .inr (4, [.ref (v 0), .ref (b 0), .ref (o 0), .ref (h 0), .ref (t 0)]))] ++ (HW b cI z ++ (SW v (b 0) cI (bI lk) pe cn rk)))) rfl (by decide) (by decide) (by decide) rfl hl.1 rfl (Nat.le_of_ble_eq_true rfl) dX4_seat_9 ⟨Nat.le_of_ble_eq_true rfl, Nat.le_of_ble_eq_true rfl⟩ (fun E9 ce9 q9 H locs hE hP hD hS hq1 hq2 hq3 => ?_) (fun H locs hT9 hP hD hS => ?_)
    · obtain ⟨hb9_1, rfl⟩ := xE_1 hE
      have hP : va_P D vwCl ([(x 0, .inr (4, [.ref (v 0), .ref (b 0), .ref (o 0), .ref (h 0), .ref (t 0)]))] ++ (HW b cI z ++ (SW v (b 0) cI (bI lk) pe cn rk))) H := hP.sub [0, 1, 2, 3, 4, 5, 6, 7, 8, 9, 10, 11, 12, 13] rfl
      have hD : va_D (kA w0) ([(x 0, .inr (4, [.ref (v 0), .ref (b 0), .ref (o 0), .ref (h 0), .ref (t 0)]))] ++ (HW b cI z ++ (SW v (b 0) cI (bI lk) pe cn rk))) := hD.sub [0, 1, 2, 3, 4, 5, 6, 7, 8, 9, 10, 11, 12, 13] (by decide) rfl
      have hT9 : (tSeatW z (nI r0) (nI s0) wh : Nat) = 2 := by first | rfl | omega | (simp [tSeatW, Int32.not_lt, Int32.not_le, hb3_0, hc_r0, hc_s0, hb9_1, wtq (n := 6) hb9_1]; done) | (simp [tSeatW, Int32.not_lt, Int32.not_le, hb3_0, hc_r0, hc_s0, hb9_1, wtq (n := 6) hb9_1]; omega) | (revert hb3_0 hc_r0 hc_s0 hb9_1; simp +contextual [tSeatW, Int32.not_lt, Int32.not_le]; done) | (revert hb3_0 hc_r0 hc_s0 hb9_1; simp +contextual [tSeatW, Int32.not_lt, Int32.not_le]; omega)
      subst hw0
      exact kxO hxt hlocks (Or.inr ⟨hT9, rfl⟩) hP hD hS hq1 hq2 hq3 (Nat.le_of_ble_eq_true rfl) (Nat.le_of_ble_eq_true rfl)
    · have hb9_1 := t0_t hT9
      have hP : va_P D vwCl ([(x 0, .inr (4, [.ref (v 0), .ref (b 0), .ref (o 0), .ref (h 0), .ref (t 0)]))] ++ (HW b cI z ++ (SW v (b 0) cI (bI lk) pe cn rk))) H := hP.sub [0, 1, 2, 3, 4, 5, 6, 7, 8, 9, 10, 11, 12, 13] rfl
      have hD : va_D (kA w0) ([(x 0, .inr (4, [.ref (v 0), .ref (b 0), .ref (o 0), .ref (h 0), .ref (t 0)]))] ++ (HW b cI z ++ (SW v (b 0) cI (bI lk) pe cn rk))) := hD.sub [0, 1, 2, 3, 4, 5, 6, 7, 8, 9, 10, 11, 12, 13] (by decide) rfl
      obtain ⟨wq, hwq, rfl⟩ := (fun h => wthn7_out (wtq (n := 6) h)) hb9_1
      have hc_wq : cl (nI wq) = wq := cl_nI (show wq < 2 ^ 31 by omega)
      refine lv_aload_n hx hb dX4_seat_12 rfl (lv_at hl 0 rfl) ?_
      refine va_get (D := D) (ci := 4) (v := .ref (v 0)) (C := RX4) (T := TX4) (N := 5) hx hb hts iX4_seat_4 hown hK hP 0 rfl rfl 0 (by decide) (hts (.fieldLink RX4 10 "HallSights" "survey" "LHallSights$Survey;") (List.mem_of_getElem? (i := 1) rfl)) (fun _ h9 => h9) rfl dX4_seat_13 ?_
      refine kw_V (As := []) (rest := []) (C := RX3) (own := RX4) ⟨hx, hb, hml, hown, hts⟩ (c_X3_look l D cI cC cH cL v b z lk pe cn rk  (by first | assumption | omega) (by first | assumption | omega)) (cwV 0 hts gX4_seat_X3_look rfl rfl rfl k_X3_look ⟨Nat.le_of_ble_eq_true rfl, Nat.le_of_ble_eq_true rfl⟩) hP hD hK hS [1, 2, 3, 4, 5, 6, 7, 8, 9, 10, 11, 12, 13] [0] rfl rfl (wr := ([(x 0, .inr (4, [.ref (v 0), .ref (b 0), .ref (o 0), .ref (h 0), .ref (t 0)]))])) rfl (by decide) (by decide) (by decide) (va_recv (q := (RX3, TX3, 5)) hK hP (ci := 3) (q0 := 10) rfl rfl) rfl hl.1 rfl (Nat.le_of_ble_eq_true rfl) dX4_seat_16 ⟨Nat.le_of_ble_eq_true rfl, Nat.le_of_ble_eq_true rfl⟩ (fun H locs hP hD hS => ?_)
      have hP : va_P D vwCl ([(x 0, .inr (4, [.ref (v 0), .ref (b 0), .ref (o 0), .ref (h 0), .ref (t 0)]))] ++ (HW b cI z ++ (SW v (b 0) cI (bI true) (lkP lk (people z) z pe) (lkP lk ((fun r s => colsW z r s (-1))) z cn) (lkP lk (rkN z) z rk)))) H := hP.sub [0, 1, 2, 3, 4, 5, 6, 7, 8, 9, 10, 11, 12, 13] rfl
      have hD : va_D (kA w0) ([(x 0, .inr (4, [.ref (v 0), .ref (b 0), .ref (o 0), .ref (h 0), .ref (t 0)]))] ++ (HW b cI z ++ (SW v (b 0) cI (bI true) (lkP lk (people z) z pe) (lkP lk ((fun r s => colsW z r s (-1))) z cn) (lkP lk (rkN z) z rk)))) := hD.sub [0, 1, 2, 3, 4, 5, 6, 7, 8, 9, 10, 11, 12, 13] (by decide) rfl
      refine lv_aload_n hx hb dX4_seat_19 rfl (lv_at hl 0 rfl) ?_
      refine lv_iload_n hx hb dX4_seat_20 rfl (lv_at hl 1 rfl) ?_
      refine lv_iload_n hx hb dX4_seat_21 rfl (lv_at hl 2 rfl) ?_
      refine lv_iload_n hx hb dX4_seat_22 rfl (lv_at hl 3 rfl) ?_
      refine kr_V (As := [.int (nI r0), .int (nI s0), .int (nI wq)]) (rest := []) (C := RX4) (own := RX4) ⟨hx, hb, hml, hown, hts⟩ (c_X4_seatProperty l D cI cC cH cL x b v u o h t z true (lkP lk (people z) z pe) (lkP lk ((fun r s => colsW z r s (-1))) z cn) (lkP lk (rkN z) z rk) r0 s0 wq (by first | assumption | omega) (by first | assumption | omega) (by first | assumption | omega) (by first | assumption | omega) (by first | assumption | omega) (by exact hLU)) (cwV 3 hts gX4_seat_X4_seatProperty rfl rfl rfl k_X4_seatProperty ⟨Nat.le_of_ble_eq_true rfl, Nat.le_of_ble_eq_true rfl⟩) hP hK (va_recv (q := (RX4, TX4, 5)) hK hP (ci := 4) (q0 := 0) rfl rfl) rfl hl.1 rfl (Nat.le_of_ble_eq_true rfl) dX4_seat_23 ⟨Nat.le_of_ble_eq_true rfl, Nat.le_of_ble_eq_true rfl⟩ ?_
      have e_2 : (seatC z r0 s0 wq : Int32) = (seatC z (cl (nI r0)) (cl (nI s0)) (cl (nI wq))) := by first | rfl | omega | (simp [tSeatW, Int32.not_lt, Int32.not_le, hb3_0, hc_r0, hc_s0, wtq (n := 6) hb9_1, hb9_1, hc_wq]; done) | (simp [tSeatW, Int32.not_lt, Int32.not_le, hb3_0, hc_r0, hc_s0, wtq (n := 6) hb9_1, hb9_1, hc_wq]; omega) | (revert hb3_0 hc_r0 hc_s0 hb9_1 hc_wq; simp +contextual [tSeatW, Int32.not_lt, Int32.not_le]; done) | (revert hb3_0 hc_r0 hc_s0 hb9_1 hc_wq; simp +contextual [tSeatW, Int32.not_lt, Int32.not_le]; omega)
      have hT9 : (tSeatW z (nI r0) (nI s0) (nI wq) : Nat) = 0 := by first | rfl | omega | (simp [tSeatW, Int32.not_lt, Int32.not_le, hb3_0, hc_r0, hc_s0, wtq (n := 6) hb9_1, hb9_1, hc_wq]; done) | (simp [tSeatW, Int32.not_lt, Int32.not_le, hb3_0, hc_r0, hc_s0, wtq (n := 6) hb9_1, hb9_1, hc_wq]; omega) | (revert hb3_0 hc_r0 hc_s0 hb9_1 hc_wq; simp +contextual [tSeatW, Int32.not_lt, Int32.not_le]; done) | (revert hb3_0 hc_r0 hc_s0 hb9_1 hc_wq; simp +contextual [tSeatW, Int32.not_lt, Int32.not_le]; omega)
      subst hw0
      exact kX_iret hx hb hrt hlocks hT9 e_2 hP hD hS ⟨Nat.le_of_ble_eq_true rfl, Nat.le_of_ble_eq_true rfl⟩ dX4_seat_26
set_option maxHeartbeats 4000000 in
set_option maxRecDepth 100000 in
theorem c_X4_column (l : Launch) (hst : l.stackTraces = false) (D : va_G) (cI cC cH cL : ClassId) (y : Nat → Nat) (x b v u o h t : Nat → Nat) (z : ZZ) (co : Int32) (wh : Int32) (hw : WF z) : vx_Met l yX4_column wsX4_column ({ frames := 7, cells := 2, slots := 12, locals := 112 }) (kwx y [.ref (x 0), .int co, .int wh] D ([(x 0, .inr (4, [.ref (v 0), .ref (b 0), .ref (o 0), .ref (h 0), .ref (t 0)]))] ++ (HW b cI z)) (kT cI cC cH cL)) (kqx D ([(x 0, .inr (4, [.ref (v 0), .ref (b 0), .ref (o 0), .ref (h 0), .ref (t 0)]))] ++ (HW b cI z)) (tColW z co wh) ([(x 0, .inr (4, [.ref (v 0), .ref (b 0), .ref (o 0), .ref (h 0), .ref (t 0)]))] ++ (HW b cI z)) (.returned (some (.int (colNow z (cl co) (cl wh)))))) (kX D ([(x 0, .inr (4, [.ref (v 0), .ref (b 0), .ref (o 0), .ref (h 0), .ref (t 0)]))] ++ (HW b cI z)) "java/lang/IndexOutOfBoundsException" "java/lang/IllegalArgumentException" (tColW z co wh) ([(x 0, .inr (4, [.ref (v 0), .ref (b 0), .ref (o 0), .ref (h 0), .ref (t 0)]))] ++ (HW b cI z))) 2 12 (kA ([(x 0, .inr (4, [.ref (v 0), .ref (b 0), .ref (o 0), .ref (h 0), .ref (t 0)]))] ++ (HW b cI z))) := by
  refine vx_ofW (cc := cX4_column) (maxL := 3) (ret := (some .int)) (by decide) rfl ?_
  intro p e s m args below meth c s₁ B hml hxt hv
  obtain ⟨⟨rfl, hP, hK, hD0⟩, hX9, hF⟩ := hv
  have hx := B.exec
  have hb := B.bytes
  have hrt := B.returns
  have hts := atoms_spec (ws := wsX4_column) B.pre
  have hown : s.vm.findClass RX4 = some m.cls := findClass_of_methodNamed B.named
  have hlocks := B.notSynchronized
  have hl := lv_entry ([.ref (x 0), .int co, .int wh]) (n := 3) (Nat.le_of_ble_eq_true rfl)
  rw [lg_entry_eq]
  generalize (lg_sl ([.ref (x 0), .int co, .int wh]) ++ List.replicate (3 - (lg_sl ([.ref (x 0), .int co, .int wh])).length) Slot.unset).toArray = ls at hl ⊢
  have hl : lv_has ls 3 [(0, .ref (x 0)), (1, .int co), (2, .int wh)] := hl
  have hD := kA_self hD0
  obtain ⟨w0, hw0⟩ : ∃ w : va_W, w = [(x 0, .inr (4, [.ref (v 0), .ref (b 0), .ref (o 0), .ref (h 0), .ref (t 0)]))] ++ (HW b cI z) := ⟨_, rfl⟩
  have hD : va_D (kA w0) ([(x 0, .inr (4, [.ref (v 0), .ref (b 0), .ref (o 0), .ref (h 0), .ref (t 0)]))] ++ (HW b cI z)) := by rw [hw0]; exact hD
  have hS : va_S (kA w0) s.heap s.heap [] := va_S.rf
  have hXx : hX y (kA w0) s s.heap := by rw [hw0]; exact hX9
  have hZ := hXx.1
  rw [show kA ([(x 0, .inr (4, [.ref (v 0), .ref (b 0), .ref (o 0), .ref (h 0), .ref (t 0)]))] ++ (HW b cI z)) = kA w0 from by rw [hw0], show kqx D ([(x 0, .inr (4, [.ref (v 0), .ref (b 0), .ref (o 0), .ref (h 0), .ref (t 0)]))] ++ (HW b cI z)) = kqx D w0 from by rw [hw0], show kX D ([(x 0, .inr (4, [.ref (v 0), .ref (b 0), .ref (o 0), .ref (h 0), .ref (t 0)]))] ++ (HW b cI z)) = kX D w0 from by rw [hw0]]
  have hP : va_P D vwCl ([(x 0, .inr (4, [.ref (v 0), .ref (b 0), .ref (o 0), .ref (h 0), .ref (t 0)]))] ++ (HW b cI z)) s.heap := hP
  have hR10 := wf_R10 hw
  have hC4 := wf_C4 hw
  have hR1000 : nR z ≤ 1000 := by omega
  have hC1000 : nC z ≤ 1000 := by omega
  refine lv_aload_n hx hb dX4_column_0 rfl (lv_at hl 0 rfl) ?_
  refine lv_iload_n hx hb dX4_column_1 rfl (lv_at hl 1 rfl) ?_
  refine kxV (As := [.int co]) (rest := []) (C := RX4) (own := RX4) ⟨hx, hb, hml, hown, hts⟩ (c_X4_checkColumn l hst D cI cC cH cL y x b v u o h t z co (by first | assumption | omega)) (cwV 1 hts gX4_column_X4_checkColumn rfl rfl rfl k_X4_checkColumn ⟨Nat.le_of_ble_eq_true rfl, Nat.le_of_ble_eq_true rfl⟩) hP hD hK hS hXx hF [0, 1, 2, 3, 4, 5, 6, 7, 8, 9] [] rfl rfl (wr := []) rfl (by decide) (by decide) (by decide) (va_recv (q := (RX4, TX4, 5)) hK hP (ci := 4) (q0 := 0) rfl rfl) rfl hl.1 rfl (Nat.le_of_ble_eq_true rfl) dX4_column_2 ⟨Nat.le_of_ble_eq_true rfl, Nat.le_of_ble_eq_true rfl⟩ (fun E9 ce9 q9 H locs hE hP hD hS hq1 hq2 hq3 => ?_) (fun H locs hT9 hP hD hS => ?_)
  · obtain ⟨hb2_0, rfl⟩ := xE_1 hE
    have hP : va_P D vwCl ([(x 0, .inr (4, [.ref (v 0), .ref (b 0), .ref (o 0), .ref (h 0), .ref (t 0)]))] ++ (HW b cI z)) H := hP
    have hD : va_D (kA w0) ([(x 0, .inr (4, [.ref (v 0), .ref (b 0), .ref (o 0), .ref (h 0), .ref (t 0)]))] ++ (HW b cI z)) := hD
    have hT9 : (tColW z co wh : Nat) = 1 := by first | rfl | omega | (simp [tColW, Int32.not_lt, Int32.not_le, hb2_0]; done) | (simp [tColW, Int32.not_lt, Int32.not_le, hb2_0]; omega) | (revert hb2_0; simp +contextual [tColW, Int32.not_lt, Int32.not_le]; done) | (revert hb2_0; simp +contextual [tColW, Int32.not_lt, Int32.not_le]; omega)
    subst hw0
    exact kxO hxt hlocks (Or.inl ⟨hT9, rfl⟩) hP hD hS hq1 hq2 hq3 (Nat.le_of_ble_eq_true rfl) (Nat.le_of_ble_eq_true rfl)
  · have hb2_0 := t0_t hT9
    have hP : va_P D vwCl ([(x 0, .inr (4, [.ref (v 0), .ref (b 0), .ref (o 0), .ref (h 0), .ref (t 0)]))] ++ (HW b cI z)) H := hP
    have hD : va_D (kA w0) ([(x 0, .inr (4, [.ref (v 0), .ref (b 0), .ref (o 0), .ref (h 0), .ref (t 0)]))] ++ (HW b cI z)) := hD
    obtain ⟨k0, hk0, rfl⟩ := isCol_out hw hb2_0
    have hc_k0 : cl (nI k0) = k0 := cl_nI (show k0 < 2 ^ 31 by omega)
    refine lv_iload_n hx hb dX4_column_5 rfl (lv_at hl 2 rfl) ?_
    refine lv_iconst (v := nI 4) hx hb dX4_column_6 (by decide) ?_
    refine kxS (As := [.int wh, .int (nI 4)]) (rest := []) (own := RX4) ⟨hx, hb, hml, hown, hts⟩ (c_X4_checkWhat l hst D cI cC cH cL y  wh 4 (by first | assumption | omega)) (va_cwS 2 hts gX4_column_X4_checkWhat rfl rfl rfl k_X4_checkWhatS ⟨Nat.le_of_ble_eq_true rfl, Nat.le_of_ble_eq_true rfl⟩) hP hD hK hS hXx hF [] [0, 1, 2, 3, 4, 5, 6, 7, 8, 9] rfl rfl (wr := ([(x 0, .inr (4, [.ref (v 0), .ref (b 0), .ref (o 0), .ref (h 0), .ref (t 0)]))] ++ (HW b cI z))) rfl (by decide) (by decide) (by decide) rfl hl.1 rfl (Nat.le_of_ble_eq_true rfl) dX4_column_7 ⟨Nat.le_of_ble_eq_true rfl, Nat.le_of_ble_eq_true rfl⟩ (fun E9 ce9 q9 H locs hE hP hD hS hq1 hq2 hq3 => ?_) (fun H locs hT9 hP hD hS => ?_)
    · obtain ⟨hb7_1, rfl⟩ := xE_1 hE
      have hP : va_P D vwCl ([(x 0, .inr (4, [.ref (v 0), .ref (b 0), .ref (o 0), .ref (h 0), .ref (t 0)]))] ++ (HW b cI z)) H := hP.sub [0, 1, 2, 3, 4, 5, 6, 7, 8, 9] rfl
      have hD : va_D (kA w0) ([(x 0, .inr (4, [.ref (v 0), .ref (b 0), .ref (o 0), .ref (h 0), .ref (t 0)]))] ++ (HW b cI z)) := hD.sub [0, 1, 2, 3, 4, 5, 6, 7, 8, 9] (by decide) rfl
      have hT9 : (tColW z (nI k0) wh : Nat) = 2 := by first | rfl | omega | (simp [tColW, Int32.not_lt, Int32.not_le, hb2_0, hc_k0, hb7_1, wtq (n := 3) hb7_1]; done) | (simp [tColW, Int32.not_lt, Int32.not_le, hb2_0, hc_k0, hb7_1, wtq (n := 3) hb7_1]; omega) | (revert hb2_0 hc_k0 hb7_1; simp +contextual [tColW, Int32.not_lt, Int32.not_le]; done) | (revert hb2_0 hc_k0 hb7_1; simp +contextual [tColW, Int32.not_lt, Int32.not_le]; omega)
      subst hw0
      exact kxO hxt hlocks (Or.inr ⟨hT9, rfl⟩) hP hD hS hq1 hq2 hq3 (Nat.le_of_ble_eq_true rfl) (Nat.le_of_ble_eq_true rfl)
    · have hb7_1 := t0_t hT9
      have hP : va_P D vwCl ([(x 0, .inr (4, [.ref (v 0), .ref (b 0), .ref (o 0), .ref (h 0), .ref (t 0)]))] ++ (HW b cI z)) H := hP.sub [0, 1, 2, 3, 4, 5, 6, 7, 8, 9] rfl
      have hD : va_D (kA w0) ([(x 0, .inr (4, [.ref (v 0), .ref (b 0), .ref (o 0), .ref (h 0), .ref (t 0)]))] ++ (HW b cI z)) := hD.sub [0, 1, 2, 3, 4, 5, 6, 7, 8, 9] (by decide) rfl
      obtain ⟨wq, hwq, rfl⟩ := (fun h => wthn4_out (wtq (n := 3) h)) hb7_1
      have hc_wq : cl (nI wq) = wq := cl_nI (show wq < 2 ^ 31 by omega)
      refine lv_aload_n hx hb dX4_column_10 rfl (lv_at hl 0 rfl) ?_
      refine lv_iload_n hx hb dX4_column_11 rfl (lv_at hl 1 rfl) ?_
      refine lv_iload_n hx hb dX4_column_12 rfl (lv_at hl 2 rfl) ?_
      refine kr_V (As := [.int (nI k0), .int (nI wq)]) (rest := []) (C := RX4) (own := RX4) ⟨hx, hb, hml, hown, hts⟩ (c_X4_columnProperty l D cI cC cH cL x b v u o h t z k0 wq (by first | assumption | omega) (by first | assumption | omega) (by first | assumption | omega)) (cwV 2 hts gX4_column_X4_columnProperty rfl rfl rfl k_X4_columnProperty ⟨Nat.le_of_ble_eq_true rfl, Nat.le_of_ble_eq_true rfl⟩) hP hK (va_recv (q := (RX4, TX4, 5)) hK hP (ci := 4) (q0 := 0) rfl rfl) rfl hl.1 rfl (Nat.le_of_ble_eq_true rfl) dX4_column_13 ⟨Nat.le_of_ble_eq_true rfl, Nat.le_of_ble_eq_true rfl⟩ ?_
      have e_2 : (colNow z k0 wq : Int32) = (colNow z (cl (nI k0)) (cl (nI wq))) := by first | rfl | omega | (simp [tColW, Int32.not_lt, Int32.not_le, hb2_0, hc_k0, wtq (n := 3) hb7_1, hb7_1, hc_wq]; done) | (simp [tColW, Int32.not_lt, Int32.not_le, hb2_0, hc_k0, wtq (n := 3) hb7_1, hb7_1, hc_wq]; omega) | (revert hb2_0 hc_k0 hb7_1 hc_wq; simp +contextual [tColW, Int32.not_lt, Int32.not_le]; done) | (revert hb2_0 hc_k0 hb7_1 hc_wq; simp +contextual [tColW, Int32.not_lt, Int32.not_le]; omega)
      have hT9 : (tColW z (nI k0) (nI wq) : Nat) = 0 := by first | rfl | omega | (simp [tColW, Int32.not_lt, Int32.not_le, hb2_0, hc_k0, wtq (n := 3) hb7_1, hb7_1, hc_wq]; done) | (simp [tColW, Int32.not_lt, Int32.not_le, hb2_0, hc_k0, wtq (n := 3) hb7_1, hb7_1, hc_wq]; omega) | (revert hb2_0 hc_k0 hb7_1 hc_wq; simp +contextual [tColW, Int32.not_lt, Int32.not_le]; done) | (revert hb2_0 hc_k0 hb7_1 hc_wq; simp +contextual [tColW, Int32.not_lt, Int32.not_le]; omega)
      subst hw0
      exact kX_iret hx hb hrt hlocks hT9 e_2 hP hD hS ⟨Nat.le_of_ble_eq_true rfl, Nat.le_of_ble_eq_true rfl⟩ dX4_column_16
set_option maxRecDepth 20000 in
theorem iX4_best_4 : ∀ w ∈ wsX40, w ∈ wsX4_best := by decide +kernel
set_option maxHeartbeats 4000000 in
set_option maxRecDepth 100000 in
theorem c_X4_best (l : Launch) (hst : l.stackTraces = false) (D : va_G) (cI cC cH cL : ClassId) (y : Nat → Nat) (x b v u o h t : Nat → Nat) (z : ZZ) (lk : Bool) (pe cn rk : ZZ) (pl : Int32) (hw : WF z) (hws : WS z) (hL0 : lk = true → LKR z pe cn rk) : vx_Met l yX4_best wsX4_best ({ frames := 6, cells := 1, slots := 6, locals := 115 }) (kwx y [.ref (x 0), .int pl] D ([(x 0, .inr (4, [.ref (v 0), .ref (b 0), .ref (o 0), .ref (h 0), .ref (t 0)]))] ++ (HW b cI z ++ (SW v (b 0) cI (bI lk) pe cn rk))) (kT cI cC cH cL)) (kqx D ([(x 0, .inr (4, [.ref (v 0), .ref (b 0), .ref (o 0), .ref (h 0), .ref (t 0)]))] ++ (HW b cI z ++ (SW v (b 0) cI (bI lk) pe cn rk))) (if (0 : Int32) ≤ pl then 0 else 1) ([(x 0, .inr (4, [.ref (v 0), .ref (b 0), .ref (o 0), .ref (h 0), .ref (t 0)]))] ++ (HW b cI z ++ (SW v (b 0) cI (bI true) (lkP lk (people z) z pe) (lkP lk ((fun r s => colsW z r s (-1))) z cn) (lkP lk (rkN z) z rk)))) (.returned (some (.int (bestW z pl))))) (kX D ([(x 0, .inr (4, [.ref (v 0), .ref (b 0), .ref (o 0), .ref (h 0), .ref (t 0)]))] ++ (HW b cI z ++ (SW v (b 0) cI (bI lk) pe cn rk))) "java/lang/IllegalArgumentException" "java/lang/IllegalArgumentException" (if (0 : Int32) ≤ pl then 0 else 1) ([(x 0, .inr (4, [.ref (v 0), .ref (b 0), .ref (o 0), .ref (h 0), .ref (t 0)]))] ++ (HW b cI z ++ (SW v (b 0) cI (bI lk) pe cn rk)))) 1 6 (kA ([(x 0, .inr (4, [.ref (v 0), .ref (b 0), .ref (o 0), .ref (h 0), .ref (t 0)]))] ++ (HW b cI z ++ (SW v (b 0) cI (bI lk) pe cn rk)))) := by
  refine vx_ofW (cc := cX4_best) (maxL := 2) (ret := (some .int)) (by decide) rfl ?_
  intro p e s m args below meth c s₁ B hml hxt hv
  obtain ⟨⟨rfl, hP, hK, hD0⟩, hX9, hF⟩ := hv
  have hx := B.exec
  have hb := B.bytes
  have hrt := B.returns
  have hts := atoms_spec (ws := wsX4_best) B.pre
  have hown : s.vm.findClass RX4 = some m.cls := findClass_of_methodNamed B.named
  have hlocks := B.notSynchronized
  have hl := lv_entry ([.ref (x 0), .int pl]) (n := 2) (Nat.le_of_ble_eq_true rfl)
  rw [lg_entry_eq]
  generalize (lg_sl ([.ref (x 0), .int pl]) ++ List.replicate (2 - (lg_sl ([.ref (x 0), .int pl])).length) Slot.unset).toArray = ls at hl ⊢
  have hl : lv_has ls 2 [(0, .ref (x 0)), (1, .int pl)] := hl
  have hD := kA_self hD0
  obtain ⟨w0, hw0⟩ : ∃ w : va_W, w = [(x 0, .inr (4, [.ref (v 0), .ref (b 0), .ref (o 0), .ref (h 0), .ref (t 0)]))] ++ (HW b cI z ++ (SW v (b 0) cI (bI lk) pe cn rk)) := ⟨_, rfl⟩
  have hD : va_D (kA w0) ([(x 0, .inr (4, [.ref (v 0), .ref (b 0), .ref (o 0), .ref (h 0), .ref (t 0)]))] ++ (HW b cI z ++ (SW v (b 0) cI (bI lk) pe cn rk))) := by rw [hw0]; exact hD
  have hS : va_S (kA w0) s.heap s.heap [] := va_S.rf
  have hXx : hX y (kA w0) s s.heap := by rw [hw0]; exact hX9
  have hZ := hXx.1
  rw [show kA ([(x 0, .inr (4, [.ref (v 0), .ref (b 0), .ref (o 0), .ref (h 0), .ref (t 0)]))] ++ (HW b cI z ++ (SW v (b 0) cI (bI lk) pe cn rk))) = kA w0 from by rw [hw0], show kqx D ([(x 0, .inr (4, [.ref (v 0), .ref (b 0), .ref (o 0), .ref (h 0), .ref (t 0)]))] ++ (HW b cI z ++ (SW v (b 0) cI (bI lk) pe cn rk))) = kqx D w0 from by rw [hw0], show kX D ([(x 0, .inr (4, [.ref (v 0), .ref (b 0), .ref (o 0), .ref (h 0), .ref (t 0)]))] ++ (HW b cI z ++ (SW v (b 0) cI (bI lk) pe cn rk))) = kX D w0 from by rw [hw0]]
  have hP : va_P D vwCl ([(x 0, .inr (4, [.ref (v 0), .ref (b 0), .ref (o 0), .ref (h 0), .ref (t 0)]))] ++ (HW b cI z ++ (SW v (b 0) cI (bI lk) pe cn rk))) s.heap := hP
  have hR10 := wf_R10 hw
  have hC4 := wf_C4 hw
  have hLU := lkr_P hw (lk := lk) (pe := pe) (cn := cn) (rk := rk) hL0
  have hR1000 : nR z ≤ 1000 := by omega
  refine lv_iload_n hx hb dX4_best_0 rfl (lv_at hl 1 rfl) ?_
  refine lv_if_ge (tgt := 14) hx hb dX4_best_1 (by decide) (fun c_1_0 => ?_) (fun c_1_1 => ?_)
  · have c_1_0 : (0 : Int32) ≤ pl := c_1_0
    refine lv_aload_n hx hb dX4_best_14 rfl (lv_at hl 0 rfl) ?_
    refine va_get (D := D) (ci := 4) (v := .ref (v 0)) (C := RX4) (T := TX4) (N := 5) hx hb hts iX4_best_4 hown hK hP 0 rfl rfl 0 (by decide) (hts (.fieldLink RX4 10 "HallSights" "survey" "LHallSights$Survey;") (List.mem_of_getElem? (i := 3) rfl)) (fun _ h9 => h9) rfl dX4_best_15 ?_
    refine kw_V (As := []) (rest := []) (C := RX3) (own := RX4) ⟨hx, hb, hml, hown, hts⟩ (c_X3_look l D cI cC cH cL v b z lk pe cn rk  (by first | assumption | omega) (by first | assumption | omega)) (cwV 0 hts gX4_best_X3_look rfl rfl rfl k_X3_look ⟨Nat.le_of_ble_eq_true rfl, Nat.le_of_ble_eq_true rfl⟩) hP hD hK hS [1, 2, 3, 4, 5, 6, 7, 8, 9, 10, 11, 12, 13] [0] rfl rfl (wr := ([(x 0, .inr (4, [.ref (v 0), .ref (b 0), .ref (o 0), .ref (h 0), .ref (t 0)]))])) rfl (by decide) (by decide) (by decide) (va_recv (q := (RX3, TX3, 5)) hK hP (ci := 3) (q0 := 10) rfl rfl) rfl hl.1 rfl (Nat.le_of_ble_eq_true rfl) dX4_best_18 ⟨Nat.le_of_ble_eq_true rfl, Nat.le_of_ble_eq_true rfl⟩ (fun H locs hP hD hS => ?_)
    have hP : va_P D vwCl ([(x 0, .inr (4, [.ref (v 0), .ref (b 0), .ref (o 0), .ref (h 0), .ref (t 0)]))] ++ (HW b cI z ++ (SW v (b 0) cI (bI true) (lkP lk (people z) z pe) (lkP lk ((fun r s => colsW z r s (-1))) z cn) (lkP lk (rkN z) z rk)))) H := hP.sub [0, 1, 2, 3, 4, 5, 6, 7, 8, 9, 10, 11, 12, 13] rfl
    have hD : va_D (kA w0) ([(x 0, .inr (4, [.ref (v 0), .ref (b 0), .ref (o 0), .ref (h 0), .ref (t 0)]))] ++ (HW b cI z ++ (SW v (b 0) cI (bI true) (lkP lk (people z) z pe) (lkP lk ((fun r s => colsW z r s (-1))) z cn) (lkP lk (rkN z) z rk)))) := hD.sub [0, 1, 2, 3, 4, 5, 6, 7, 8, 9, 10, 11, 12, 13] (by decide) rfl
    refine lv_aload_n hx hb dX4_best_21 rfl (lv_at hl 0 rfl) ?_
    refine va_get (D := D) (ci := 4) (v := .ref (v 0)) (C := RX4) (T := TX4) (N := 5) hx hb hts iX4_best_4 hown hK hP 0 rfl rfl 0 (by decide) (hts (.fieldLink RX4 10 "HallSights" "survey" "LHallSights$Survey;") (List.mem_of_getElem? (i := 3) rfl)) (fun _ h9 => h9) rfl dX4_best_22 ?_
    refine lv_iload_n hx hb dX4_best_25 rfl (lv_at hl 1 rfl) ?_
    refine kr_V (As := [.int pl]) (rest := []) (C := RX3) (own := RX4) ⟨hx, hb, hml, hown, hts⟩ (c_X3_freeSeatAt l D cI cC cH cL v b z true (lkP lk (people z) z pe) (lkP lk ((fun r s => colsW z r s (-1))) z cn) (lkP lk (rkN z) z rk) pl (by first | assumption | omega) (by exact hLU)) (cwV 1 hts gX4_best_X3_freeSeatAt rfl rfl rfl k_X3_freeSeatAt ⟨Nat.le_of_ble_eq_true rfl, Nat.le_of_ble_eq_true rfl⟩) (hP.sub (ws' := (HW b cI z ++ SW v (b 0) cI (bI true) (lkP lk (people z) z pe) (lkP lk ((fun r s => colsW z r s (-1))) z cn) (lkP lk (rkN z) z rk))) [1, 2, 3, 4, 5, 6, 7, 8, 9, 10, 11, 12, 13] rfl) hK (va_recv (q := (RX3, TX3, 5)) hK hP (ci := 3) (q0 := 10) rfl rfl) rfl hl.1 rfl (Nat.le_of_ble_eq_true rfl) dX4_best_26 ⟨Nat.le_of_ble_eq_true rfl, Nat.le_of_ble_eq_true rfl⟩ ?_
    have hT9 : (if (0 : Int32) ≤ pl then 0 else 1 : Nat) = 0 := by first | rfl | omega | (simp [Int32.not_lt, Int32.not_le, c_1_0, Int32.not_lt.mpr c_1_0]; done) | (simp [Int32.not_lt, Int32.not_le, c_1_0, Int32.not_lt.mpr c_1_0]; omega) | (revert c_1_0; simp +contextual [Int32.not_lt, Int32.not_le]; done) | (revert c_1_0; simp +contextual [Int32.not_lt, Int32.not_le]; omega)
    subst hw0
    exact kX_iret hx hb hrt hlocks hT9 rfl hP hD hS ⟨Nat.le_of_ble_eq_true rfl, Nat.le_of_ble_eq_true rfl⟩ dX4_best_29
  · have c_1_1 : ¬ (0 : Int32) ≤ pl := c_1_1
    have hT9 : (if (0 : Int32) ≤ pl then 0 else 1 : Nat) = 1 := by first | rfl | omega | (simp [Int32.not_lt, Int32.not_le, c_1_1, Int32.not_le.mp c_1_1]; done) | (simp [Int32.not_lt, Int32.not_le, c_1_1, Int32.not_le.mp c_1_1]; omega) | (revert c_1_1; simp +contextual [Int32.not_lt, Int32.not_le]; done) | (revert c_1_1; simp +contextual [Int32.not_lt, Int32.not_le]; omega)
    subst hw0
    exact kxT (text := "place is below 0") hx hb hst hown xf_IA (hts (.classLink RX4 38 "java/lang/IllegalArgumentException") (List.mem_of_getElem? (i := 1) rfl)) (hts (.initialized "java/lang/IllegalArgumentException") (List.mem_of_getElem? (i := 2) rfl)) hF (List.mem_of_getElem? (i := 15) rfl) (xat hF xb_IA (fun w h => hts w (List.mem_cons_of_mem _ (List.mem_append_right _ h)))) xg_IA hXx (hl.1.trans hml.symm) dX4_best_4 dX4_best_7 dX4_best_8 dX4_best_10 dX4_best_13 hxt ⟨Nat.le_of_ble_eq_true rfl, Nat.le_of_ble_eq_true rfl, Nat.le_of_ble_eq_true rfl, Nat.le_of_ble_eq_true rfl⟩ hlocks (Or.inl ⟨hT9, rfl⟩) hP hD hS ⟨Nat.le_of_ble_eq_true rfl, Nat.le_of_ble_eq_true rfl⟩
set_option maxRecDepth 20000 in
theorem iX4_whoBlocks_4 : ∀ w ∈ wsX40, w ∈ wsX4_whoBlocks := by decide +kernel
set_option maxHeartbeats 4000000 in
set_option maxRecDepth 100000 in
theorem c_X4_whoBlocks (l : Launch) (hst : l.stackTraces = false) (D : va_G) (cI cC cH cL : ClassId) (y : Nat → Nat) (x b v u o h t : Nat → Nat) (z : ZZ) (ro : Int32) (se : Int32) (hw : WF z) (hws : WS z) : vx_Met l yX4_whoBlocks wsX4_whoBlocks ({ frames := 8, cells := 2, slots := 12, locals := 125 }) (kwx y [.ref (x 0), .int ro, .int se] D ([(x 0, .inr (4, [.ref (v 0), .ref (b 0), .ref (o 0), .ref (h 0), .ref (t 0)]))] ++ (HW b cI z)) (kT cI cC cH cL)) (kqx D ([(x 0, .inr (4, [.ref (v 0), .ref (b 0), .ref (o 0), .ref (h 0), .ref (t 0)]))] ++ (HW b cI z)) (tSeat z ro se) ([(x 0, .inr (4, [.ref (v 0), .ref (b 0), .ref (o 0), .ref (h 0), .ref (t 0)]))] ++ (HW b cI z)) (.returned (some (.int (blockerI z (cl ro) (cl se)))))) (kX D ([(x 0, .inr (4, [.ref (v 0), .ref (b 0), .ref (o 0), .ref (h 0), .ref (t 0)]))] ++ (HW b cI z)) "java/lang/IndexOutOfBoundsException" "java/lang/IndexOutOfBoundsException" (tSeat z ro se) ([(x 0, .inr (4, [.ref (v 0), .ref (b 0), .ref (o 0), .ref (h 0), .ref (t 0)]))] ++ (HW b cI z))) 2 12 (kA ([(x 0, .inr (4, [.ref (v 0), .ref (b 0), .ref (o 0), .ref (h 0), .ref (t 0)]))] ++ (HW b cI z))) := by
  refine vx_ofW (cc := cX4_whoBlocks) (maxL := 3) (ret := (some .int)) (by decide) rfl ?_
  intro p e s m args below meth c s₁ B hml hxt hv
  obtain ⟨⟨rfl, hP, hK, hD0⟩, hX9, hF⟩ := hv
  have hx := B.exec
  have hb := B.bytes
  have hrt := B.returns
  have hts := atoms_spec (ws := wsX4_whoBlocks) B.pre
  have hown : s.vm.findClass RX4 = some m.cls := findClass_of_methodNamed B.named
  have hlocks := B.notSynchronized
  have hl := lv_entry ([.ref (x 0), .int ro, .int se]) (n := 3) (Nat.le_of_ble_eq_true rfl)
  rw [lg_entry_eq]
  generalize (lg_sl ([.ref (x 0), .int ro, .int se]) ++ List.replicate (3 - (lg_sl ([.ref (x 0), .int ro, .int se])).length) Slot.unset).toArray = ls at hl ⊢
  have hl : lv_has ls 3 [(0, .ref (x 0)), (1, .int ro), (2, .int se)] := hl
  have hD := kA_self hD0
  obtain ⟨w0, hw0⟩ : ∃ w : va_W, w = [(x 0, .inr (4, [.ref (v 0), .ref (b 0), .ref (o 0), .ref (h 0), .ref (t 0)]))] ++ (HW b cI z) := ⟨_, rfl⟩
  have hD : va_D (kA w0) ([(x 0, .inr (4, [.ref (v 0), .ref (b 0), .ref (o 0), .ref (h 0), .ref (t 0)]))] ++ (HW b cI z)) := by rw [hw0]; exact hD
  have hS : va_S (kA w0) s.heap s.heap [] := va_S.rf
  have hXx : hX y (kA w0) s s.heap := by rw [hw0]; exact hX9
  have hZ := hXx.1
  rw [show kA ([(x 0, .inr (4, [.ref (v 0), .ref (b 0), .ref (o 0), .ref (h 0), .ref (t 0)]))] ++ (HW b cI z)) = kA w0 from by rw [hw0], show kqx D ([(x 0, .inr (4, [.ref (v 0), .ref (b 0), .ref (o 0), .ref (h 0), .ref (t 0)]))] ++ (HW b cI z)) = kqx D w0 from by rw [hw0], show kX D ([(x 0, .inr (4, [.ref (v 0), .ref (b 0), .ref (o 0), .ref (h 0), .ref (t 0)]))] ++ (HW b cI z)) = kX D w0 from by rw [hw0]]
  have hP : va_P D vwCl ([(x 0, .inr (4, [.ref (v 0), .ref (b 0), .ref (o 0), .ref (h 0), .ref (t 0)]))] ++ (HW b cI z)) s.heap := hP
  have hR10 := wf_R10 hw
  have hC4 := wf_C4 hw
  have hR1000 : nR z ≤ 1000 := by omega
  have hC1000 : nC z ≤ 1000 := by omega
  refine lv_aload_n hx hb dX4_whoBlocks_0 rfl (lv_at hl 0 rfl) ?_
  refine lv_iload_n hx hb dX4_whoBlocks_1 rfl (lv_at hl 1 rfl) ?_
  refine lv_iload_n hx hb dX4_whoBlocks_2 rfl (lv_at hl 2 rfl) ?_
  refine kxV (As := [.int ro, .int se]) (rest := []) (C := RX4) (own := RX4) ⟨hx, hb, hml, hown, hts⟩ (c_X4_checkSeat l hst D cI cC cH cL y x b v u o h t z ro se (by first | assumption | omega)) (cwV 2 hts gX4_whoBlocks_X4_checkSeat rfl rfl rfl k_X4_checkSeat ⟨Nat.le_of_ble_eq_true rfl, Nat.le_of_ble_eq_true rfl⟩) hP hD hK hS hXx hF [0, 1, 2, 3, 4, 5, 6, 7, 8, 9] [] rfl rfl (wr := []) rfl (by decide) (by decide) (by decide) (va_recv (q := (RX4, TX4, 5)) hK hP (ci := 4) (q0 := 0) rfl rfl) rfl hl.1 rfl (Nat.le_of_ble_eq_true rfl) dX4_whoBlocks_3 ⟨Nat.le_of_ble_eq_true rfl, Nat.le_of_ble_eq_true rfl⟩ (fun E9 ce9 q9 H locs hE hP hD hS hq1 hq2 hq3 => ?_) (fun H locs hT9 hP hD hS => ?_)
  · obtain ⟨hb3_0, rfl⟩ := xE_1 hE
    have hP : va_P D vwCl ([(x 0, .inr (4, [.ref (v 0), .ref (b 0), .ref (o 0), .ref (h 0), .ref (t 0)]))] ++ (HW b cI z)) H := hP
    have hD : va_D (kA w0) ([(x 0, .inr (4, [.ref (v 0), .ref (b 0), .ref (o 0), .ref (h 0), .ref (t 0)]))] ++ (HW b cI z)) := hD
    have hT9 : (tSeat z ro se : Nat) = 1 := by first | rfl | omega | (simp [tSeat, Int32.not_lt, Int32.not_le, hb3_0]; done) | (simp [tSeat, Int32.not_lt, Int32.not_le, hb3_0]; omega) | (revert hb3_0; simp +contextual [tSeat, Int32.not_lt, Int32.not_le]; done) | (revert hb3_0; simp +contextual [tSeat, Int32.not_lt, Int32.not_le]; omega)
    subst hw0
    exact kxO hxt hlocks (Or.inl ⟨hT9, rfl⟩) hP hD hS hq1 hq2 hq3 (Nat.le_of_ble_eq_true rfl) (Nat.le_of_ble_eq_true rfl)
  · have hb3_0 := t0_t hT9
    have hP : va_P D vwCl ([(x 0, .inr (4, [.ref (v 0), .ref (b 0), .ref (o 0), .ref (h 0), .ref (t 0)]))] ++ (HW b cI z)) H := hP
    have hD : va_D (kA w0) ([(x 0, .inr (4, [.ref (v 0), .ref (b 0), .ref (o 0), .ref (h 0), .ref (t 0)]))] ++ (HW b cI z)) := hD
    obtain ⟨r0, s0, hr0, hs0, rfl, rfl⟩ := isSeat_out hw hb3_0
    have hS0 := wf_S12 hw hr0
    have hc_r0 : cl (nI r0) = r0 := cl_nI (show r0 < 2 ^ 31 by omega)
    have hc_s0 : cl (nI s0) = s0 := cl_nI (show s0 < 2 ^ 31 by omega)
    refine lv_aload_n hx hb dX4_whoBlocks_6 rfl (lv_at hl 0 rfl) ?_
    refine va_get (D := D) (ci := 4) (v := .ref (b 0)) (C := RX4) (T := TX4) (N := 5) hx hb hts iX4_whoBlocks_4 hown hK hP 0 rfl rfl 1 (by decide) (hts (.fieldLink RX4 20 "HallSights" "hall" "LHallSights$Hall;") (List.mem_of_getElem? (i := 1) rfl)) (fun _ h9 => h9) rfl dX4_whoBlocks_7 ?_
    refine lv_iload_n hx hb dX4_whoBlocks_10 rfl (lv_at hl 1 rfl) ?_
    refine lv_iload_n hx hb dX4_whoBlocks_11 rfl (lv_at hl 2 rfl) ?_
    refine kr_V (As := [.int (nI r0), .int (nI s0)]) (rest := []) (C := RX0) (own := RX4) ⟨hx, hb, hml, hown, hts⟩ (c_X0_nearestInWay l D cI cC cH cL b z r0 s0 (by first | assumption | omega) (by exact hws) (by first | assumption | omega)) (cwV 2 hts gX4_whoBlocks_X0_nearestInWay rfl rfl rfl k_X0_nearestInWay ⟨Nat.le_of_ble_eq_true rfl, Nat.le_of_ble_eq_true rfl⟩) (hP.sub (ws' := (HW b cI z)) [1, 2, 3, 4, 5, 6, 7, 8, 9] rfl) hK (va_recv (q := (RX0, TX0, 10)) hK hP (ci := 0) (q0 := 1) rfl rfl) rfl hl.1 rfl (Nat.le_of_ble_eq_true rfl) dX4_whoBlocks_12 ⟨Nat.le_of_ble_eq_true rfl, Nat.le_of_ble_eq_true rfl⟩ ?_
    have e_1 : (blockerI z r0 s0 : Int32) = (blockerI z (cl (nI r0)) (cl (nI s0))) := by first | rfl | omega | (simp [tSeat, Int32.not_lt, Int32.not_le, hb3_0, hc_r0, hc_s0]; done) | (simp [tSeat, Int32.not_lt, Int32.not_le, hb3_0, hc_r0, hc_s0]; omega) | (revert hb3_0 hc_r0 hc_s0; simp +contextual [tSeat, Int32.not_lt, Int32.not_le]; done) | (revert hb3_0 hc_r0 hc_s0; simp +contextual [tSeat, Int32.not_lt, Int32.not_le]; omega)
    have hT9 : (tSeat z (nI r0) (nI s0) : Nat) = 0 := by first | rfl | omega | (simp [tSeat, Int32.not_lt, Int32.not_le, hb3_0, hc_r0, hc_s0]; done) | (simp [tSeat, Int32.not_lt, Int32.not_le, hb3_0, hc_r0, hc_s0]; omega) | (revert hb3_0 hc_r0 hc_s0; simp +contextual [tSeat, Int32.not_lt, Int32.not_le]; done) | (revert hb3_0 hc_r0 hc_s0; simp +contextual [tSeat, Int32.not_lt, Int32.not_le]; omega)
    subst hw0
    exact kX_iret hx hb hrt hlocks hT9 e_1 hP hD hS ⟨Nat.le_of_ble_eq_true rfl, Nat.le_of_ble_eq_true rfl⟩ dX4_whoBlocks_15
set_option maxRecDepth 20000 in
theorem iX4_count_4 : ∀ w ∈ wsX40, w ∈ wsX4_count := by decide +kernel
set_option maxHeartbeats 4000000 in
set_option maxRecDepth 100000 in
theorem c_X4_count (l : Launch) (hst : l.stackTraces = false) (D : va_G) (cI cC cH cL : ClassId) (y : Nat → Nat) (x b v u o h t : Nat → Nat) (z : ZZ) (lk : Bool) (pe cn rk : ZZ) (nk : Nat) (wh : Int32) (hw : WF z) (hws : WS z) (hv : VT z) (hL0 : lk = true → LKR z pe cn rk) : vx_Met l yX4_count wsX4_count ({ frames := 7, cells := 1, slots := 6, locals := 132 }) (kwx y [.ref (x 0), .int wh] D ([(x 0, .inr (4, [.ref (v 0), .ref (b 0), .ref (o 0), .ref (h 0), .ref (t 0)]))] ++ (HW b cI z ++ (SW v (b 0) cI (bI lk) pe cn rk ++ ([(h 0, .inr (1, [.ref (h 1), .int (nI nk)]))])))) (kT cI cC cH cL)) (kqx D ([(x 0, .inr (4, [.ref (v 0), .ref (b 0), .ref (o 0), .ref (h 0), .ref (t 0)]))] ++ (HW b cI z ++ (SW v (b 0) cI (bI lk) pe cn rk ++ ([(h 0, .inr (1, [.ref (h 1), .int (nI nk)]))])))) (if wthn wh (nI 0) (nI 8) = true then 0 else 1) ([(x 0, .inr (4, [.ref (v 0), .ref (b 0), .ref (o 0), .ref (h 0), .ref (t 0)]))] ++ (HW b cI z ++ (SW v (b 0) cI (bI true) (lkP lk (people z) z pe) (lkP lk ((fun r s => colsW z r s (-1))) z cn) (lkP lk (rkN z) z rk) ++ ([(h 0, .inr (1, [.ref (h 1), .int (nI nk)]))])))) (.returned (some (.int (countI z nk (cl wh)))))) (kX D ([(x 0, .inr (4, [.ref (v 0), .ref (b 0), .ref (o 0), .ref (h 0), .ref (t 0)]))] ++ (HW b cI z ++ (SW v (b 0) cI (bI lk) pe cn rk ++ ([(h 0, .inr (1, [.ref (h 1), .int (nI nk)]))])))) "java/lang/IllegalArgumentException" "java/lang/IllegalArgumentException" (if wthn wh (nI 0) (nI 8) = true then 0 else 1) ([(x 0, .inr (4, [.ref (v 0), .ref (b 0), .ref (o 0), .ref (h 0), .ref (t 0)]))] ++ (HW b cI z ++ (SW v (b 0) cI (bI lk) pe cn rk ++ ([(h 0, .inr (1, [.ref (h 1), .int (nI nk)]))]))))) 1 6 (kA ([(x 0, .inr (4, [.ref (v 0), .ref (b 0), .ref (o 0), .ref (h 0), .ref (t 0)]))] ++ (HW b cI z ++ (SW v (b 0) cI (bI lk) pe cn rk ++ ([(h 0, .inr (1, [.ref (h 1), .int (nI nk)]))]))))) := by
  refine vx_ofW (cc := cX4_count) (maxL := 2) (ret := (some .int)) (by decide) rfl ?_
  intro p e s m args below meth c s₁ B hml hxt hv
  obtain ⟨⟨rfl, hP, hK, hD0⟩, hX9, hF⟩ := hv
  have hx := B.exec
  have hb := B.bytes
  have hrt := B.returns
  have hts := atoms_spec (ws := wsX4_count) B.pre
  have hown : s.vm.findClass RX4 = some m.cls := findClass_of_methodNamed B.named
  have hlocks := B.notSynchronized
  have hl := lv_entry ([.ref (x 0), .int wh]) (n := 2) (Nat.le_of_ble_eq_true rfl)
  rw [lg_entry_eq]
  generalize (lg_sl ([.ref (x 0), .int wh]) ++ List.replicate (2 - (lg_sl ([.ref (x 0), .int wh])).length) Slot.unset).toArray = ls at hl ⊢
  have hl : lv_has ls 2 [(0, .ref (x 0)), (1, .int wh)] := hl
  have hD := kA_self hD0
  obtain ⟨w0, hw0⟩ : ∃ w : va_W, w = [(x 0, .inr (4, [.ref (v 0), .ref (b 0), .ref (o 0), .ref (h 0), .ref (t 0)]))] ++ (HW b cI z ++ (SW v (b 0) cI (bI lk) pe cn rk ++ ([(h 0, .inr (1, [.ref (h 1), .int (nI nk)]))]))) := ⟨_, rfl⟩
  have hD : va_D (kA w0) ([(x 0, .inr (4, [.ref (v 0), .ref (b 0), .ref (o 0), .ref (h 0), .ref (t 0)]))] ++ (HW b cI z ++ (SW v (b 0) cI (bI lk) pe cn rk ++ ([(h 0, .inr (1, [.ref (h 1), .int (nI nk)]))])))) := by rw [hw0]; exact hD
  have hS : va_S (kA w0) s.heap s.heap [] := va_S.rf
  have hXx : hX y (kA w0) s s.heap := by rw [hw0]; exact hX9
  have hZ := hXx.1
  rw [show kA ([(x 0, .inr (4, [.ref (v 0), .ref (b 0), .ref (o 0), .ref (h 0), .ref (t 0)]))] ++ (HW b cI z ++ (SW v (b 0) cI (bI lk) pe cn rk ++ ([(h 0, .inr (1, [.ref (h 1), .int (nI nk)]))])))) = kA w0 from by rw [hw0], show kqx D ([(x 0, .inr (4, [.ref (v 0), .ref (b 0), .ref (o 0), .ref (h 0), .ref (t 0)]))] ++ (HW b cI z ++ (SW v (b 0) cI (bI lk) pe cn rk ++ ([(h 0, .inr (1, [.ref (h 1), .int (nI nk)]))])))) = kqx D w0 from by rw [hw0], show kX D ([(x 0, .inr (4, [.ref (v 0), .ref (b 0), .ref (o 0), .ref (h 0), .ref (t 0)]))] ++ (HW b cI z ++ (SW v (b 0) cI (bI lk) pe cn rk ++ ([(h 0, .inr (1, [.ref (h 1), .int (nI nk)]))])))) = kX D w0 from by rw [hw0]]
  have hP : va_P D vwCl ([(x 0, .inr (4, [.ref (v 0), .ref (b 0), .ref (o 0), .ref (h 0), .ref (t 0)]))] ++ (HW b cI z ++ (SW v (b 0) cI (bI lk) pe cn rk ++ ([(h 0, .inr (1, [.ref (h 1), .int (nI nk)]))])))) s.heap := hP
  have hR10 := wf_R10 hw
  have hC4 := wf_C4 hw
  have hLU := lkr_P hw (lk := lk) (pe := pe) (cn := cn) (rk := rk) hL0
  have hR1000 : nR z ≤ 1000 := by omega
  refine lv_iload_n hx hb dX4_count_0 rfl (lv_at hl 1 rfl) ?_
  refine lv_bipush (v := nI 9) hx hb dX4_count_1 (by decide) ?_
  refine kxS (As := [.int wh, .int (nI 9)]) (rest := []) (own := RX4) ⟨hx, hb, hml, hown, hts⟩ (c_X4_checkWhat l hst D cI cC cH cL y  wh 9 (by first | assumption | omega)) (va_cwS 2 hts gX4_count_X4_checkWhat rfl rfl rfl k_X4_checkWhatS ⟨Nat.le_of_ble_eq_true rfl, Nat.le_of_ble_eq_true rfl⟩) hP hD hK hS hXx hF [] [0, 1, 2, 3, 4, 5, 6, 7, 8, 9, 10, 11, 12, 13, 14] rfl rfl (wr := ([(x 0, .inr (4, [.ref (v 0), .ref (b 0), .ref (o 0), .ref (h 0), .ref (t 0)]))] ++ (HW b cI z ++ (SW v (b 0) cI (bI lk) pe cn rk ++ ([(h 0, .inr (1, [.ref (h 1), .int (nI nk)]))]))))) rfl (by decide) (by decide) (by decide) rfl hl.1 rfl (Nat.le_of_ble_eq_true rfl) dX4_count_3 ⟨Nat.le_of_ble_eq_true rfl, Nat.le_of_ble_eq_true rfl⟩ (fun E9 ce9 q9 H locs hE hP hD hS hq1 hq2 hq3 => ?_) (fun H locs hT9 hP hD hS => ?_)
  · obtain ⟨hb3_0, rfl⟩ := xE_1 hE
    have hP : va_P D vwCl ([(x 0, .inr (4, [.ref (v 0), .ref (b 0), .ref (o 0), .ref (h 0), .ref (t 0)]))] ++ (HW b cI z ++ (SW v (b 0) cI (bI lk) pe cn rk ++ ([(h 0, .inr (1, [.ref (h 1), .int (nI nk)]))])))) H := hP.sub [0, 1, 2, 3, 4, 5, 6, 7, 8, 9, 10, 11, 12, 13, 14] rfl
    have hD : va_D (kA w0) ([(x 0, .inr (4, [.ref (v 0), .ref (b 0), .ref (o 0), .ref (h 0), .ref (t 0)]))] ++ (HW b cI z ++ (SW v (b 0) cI (bI lk) pe cn rk ++ ([(h 0, .inr (1, [.ref (h 1), .int (nI nk)]))])))) := hD.sub [0, 1, 2, 3, 4, 5, 6, 7, 8, 9, 10, 11, 12, 13, 14] (by decide) rfl
    have hT9 : (if wthn wh (nI 0) (nI 8) = true then 0 else 1 : Nat) = 1 := by first | rfl | omega | (simp [Int32.not_lt, Int32.not_le, hb3_0, wtq (n := 8) hb3_0]; done) | (simp [Int32.not_lt, Int32.not_le, hb3_0, wtq (n := 8) hb3_0]; omega) | (revert hb3_0; simp +contextual [Int32.not_lt, Int32.not_le]; done) | (revert hb3_0; simp +contextual [Int32.not_lt, Int32.not_le]; omega)
    subst hw0
    exact kxO hxt hlocks (Or.inl ⟨hT9, rfl⟩) hP hD hS hq1 hq2 hq3 (Nat.le_of_ble_eq_true rfl) (Nat.le_of_ble_eq_true rfl)
  · have hb3_0 := t0_t hT9
    have hP : va_P D vwCl ([(x 0, .inr (4, [.ref (v 0), .ref (b 0), .ref (o 0), .ref (h 0), .ref (t 0)]))] ++ (HW b cI z ++ (SW v (b 0) cI (bI lk) pe cn rk ++ ([(h 0, .inr (1, [.ref (h 1), .int (nI nk)]))])))) H := hP.sub [0, 1, 2, 3, 4, 5, 6, 7, 8, 9, 10, 11, 12, 13, 14] rfl
    have hD : va_D (kA w0) ([(x 0, .inr (4, [.ref (v 0), .ref (b 0), .ref (o 0), .ref (h 0), .ref (t 0)]))] ++ (HW b cI z ++ (SW v (b 0) cI (bI lk) pe cn rk ++ ([(h 0, .inr (1, [.ref (h 1), .int (nI nk)]))])))) := hD.sub [0, 1, 2, 3, 4, 5, 6, 7, 8, 9, 10, 11, 12, 13, 14] (by decide) rfl
    obtain ⟨wq, hwq, rfl⟩ := (fun h => wthn9_out (wtq (n := 8) h)) hb3_0
    have hc_wq : cl (nI wq) = wq := cl_nI (show wq < 2 ^ 31 by omega)
    refine lv_aload_n hx hb dX4_count_6 rfl (lv_at hl 0 rfl) ?_
    refine va_get (D := D) (ci := 4) (v := .ref (v 0)) (C := RX4) (T := TX4) (N := 5) hx hb hts iX4_count_4 hown hK hP 0 rfl rfl 0 (by decide) (hts (.fieldLink RX4 10 "HallSights" "survey" "LHallSights$Survey;") (List.mem_of_getElem? (i := 1) rfl)) (fun _ h9 => h9) rfl dX4_count_7 ?_
    refine kw_V (As := []) (rest := []) (C := RX3) (own := RX4) ⟨hx, hb, hml, hown, hts⟩ (c_X3_look l D cI cC cH cL v b z lk pe cn rk  (by first | assumption | omega) (by first | assumption | omega)) (cwV 0 hts gX4_count_X3_look rfl rfl rfl k_X3_look ⟨Nat.le_of_ble_eq_true rfl, Nat.le_of_ble_eq_true rfl⟩) hP hD hK hS [1, 2, 3, 4, 5, 6, 7, 8, 9, 10, 11, 12, 13] [0, 14] rfl rfl (wr := ([(x 0, .inr (4, [.ref (v 0), .ref (b 0), .ref (o 0), .ref (h 0), .ref (t 0)]))] ++ ([(h 0, .inr (1, [.ref (h 1), .int (nI nk)]))]))) rfl (by decide) (by decide) (by decide) (va_recv (q := (RX3, TX3, 5)) hK hP (ci := 3) (q0 := 10) rfl rfl) rfl hl.1 rfl (Nat.le_of_ble_eq_true rfl) dX4_count_10 ⟨Nat.le_of_ble_eq_true rfl, Nat.le_of_ble_eq_true rfl⟩ (fun H locs hP hD hS => ?_)
    have hP : va_P D vwCl ([(x 0, .inr (4, [.ref (v 0), .ref (b 0), .ref (o 0), .ref (h 0), .ref (t 0)]))] ++ (HW b cI z ++ (SW v (b 0) cI (bI true) (lkP lk (people z) z pe) (lkP lk ((fun r s => colsW z r s (-1))) z cn) (lkP lk (rkN z) z rk) ++ ([(h 0, .inr (1, [.ref (h 1), .int (nI nk)]))])))) H := hP.sub [0, 2, 3, 4, 5, 6, 7, 8, 9, 10, 11, 12, 13, 14, 1] rfl
    have hD : va_D (kA w0) ([(x 0, .inr (4, [.ref (v 0), .ref (b 0), .ref (o 0), .ref (h 0), .ref (t 0)]))] ++ (HW b cI z ++ (SW v (b 0) cI (bI true) (lkP lk (people z) z pe) (lkP lk ((fun r s => colsW z r s (-1))) z cn) (lkP lk (rkN z) z rk) ++ ([(h 0, .inr (1, [.ref (h 1), .int (nI nk)]))])))) := hD.sub [0, 2, 3, 4, 5, 6, 7, 8, 9, 10, 11, 12, 13, 14, 1] (by decide) rfl
    refine lv_aload_n hx hb dX4_count_13 rfl (lv_at hl 0 rfl) ?_
    refine lv_iload_n hx hb dX4_count_14 rfl (lv_at hl 1 rfl) ?_
    refine kr_V (As := [.int (nI wq)]) (rest := []) (C := RX4) (own := RX4) ⟨hx, hb, hml, hown, hts⟩ (c_X4_numberOf l D cI cC cH cL x b v u o h t z true (lkP lk (people z) z pe) (lkP lk ((fun r s => colsW z r s (-1))) z cn) (lkP lk (rkN z) z rk) nk wq (by first | assumption | omega) (by first | assumption | omega) (by first | assumption | omega) (by exact hLU)) (cwV 1 hts gX4_count_X4_numberOf rfl rfl rfl k_X4_numberOf ⟨Nat.le_of_ble_eq_true rfl, Nat.le_of_ble_eq_true rfl⟩) hP hK (va_recv (q := (RX4, TX4, 5)) hK hP (ci := 4) (q0 := 0) rfl rfl) rfl hl.1 rfl (Nat.le_of_ble_eq_true rfl) dX4_count_15 ⟨Nat.le_of_ble_eq_true rfl, Nat.le_of_ble_eq_true rfl⟩ ?_
    have e_1 : (countI z nk wq : Int32) = (countI z nk (cl (nI wq))) := by first | rfl | omega | (simp [Int32.not_lt, Int32.not_le, wtq (n := 8) hb3_0, hb3_0, hc_wq]; done) | (simp [Int32.not_lt, Int32.not_le, wtq (n := 8) hb3_0, hb3_0, hc_wq]; omega) | (revert hb3_0 hc_wq; simp +contextual [Int32.not_lt, Int32.not_le]; done) | (revert hb3_0 hc_wq; simp +contextual [Int32.not_lt, Int32.not_le]; omega)
    have hT9 : (if wthn (nI wq) (nI 0) (nI 8) = true then 0 else 1 : Nat) = 0 := by first | rfl | omega | (simp [Int32.not_lt, Int32.not_le, wtq (n := 8) hb3_0, hb3_0, hc_wq]; done) | (simp [Int32.not_lt, Int32.not_le, wtq (n := 8) hb3_0, hb3_0, hc_wq]; omega) | (revert hb3_0 hc_wq; simp +contextual [Int32.not_lt, Int32.not_le]; done) | (revert hb3_0 hc_wq; simp +contextual [Int32.not_lt, Int32.not_le]; omega)
    subst hw0
    exact kX_iret hx hb hrt hlocks hT9 e_1 hP hD hS ⟨Nat.le_of_ble_eq_true rfl, Nat.le_of_ble_eq_true rfl⟩ dX4_count_18
set_option maxRecDepth 20000 in
theorem iX4_setting_0 : ∀ w ∈ wsX00, w ∈ wsX4_setting := by decide +kernel
set_option maxRecDepth 20000 in
theorem iX4_setting_4 : ∀ w ∈ wsX40, w ∈ wsX4_setting := by decide +kernel
set_option maxHeartbeats 4000000 in
set_option maxRecDepth 100000 in
theorem c_X4_setting (l : Launch) (hst : l.stackTraces = false) (D : va_G) (cI cC cH cL : ClassId) (y : Nat → Nat) (x b v u o h t : Nat → Nat) (z : ZZ) (st0 : Int32)  : vx_Met l yX4_setting wsX4_setting ({ frames := 7, cells := 1, slots := 6, locals := 102 }) (kwx y [.ref (x 0), .int st0] D ([(x 0, .inr (4, [.ref (v 0), .ref (b 0), .ref (o 0), .ref (h 0), .ref (t 0)]))] ++ (HW b cI z)) (kT cI cC cH cL)) (kqx D ([(x 0, .inr (4, [.ref (v 0), .ref (b 0), .ref (o 0), .ref (h 0), .ref (t 0)]))] ++ (HW b cI z)) (if wthn st0 (nI 0) (nI 2) = true then 0 else 1) ([(x 0, .inr (4, [.ref (v 0), .ref (b 0), .ref (o 0), .ref (h 0), .ref (t 0)]))] ++ (HW b cI z)) (.returned (some (.int (z (cl st0)))))) (kX D ([(x 0, .inr (4, [.ref (v 0), .ref (b 0), .ref (o 0), .ref (h 0), .ref (t 0)]))] ++ (HW b cI z)) "java/lang/IndexOutOfBoundsException" "java/lang/IndexOutOfBoundsException" (if wthn st0 (nI 0) (nI 2) = true then 0 else 1) ([(x 0, .inr (4, [.ref (v 0), .ref (b 0), .ref (o 0), .ref (h 0), .ref (t 0)]))] ++ (HW b cI z))) 1 6 (kA ([(x 0, .inr (4, [.ref (v 0), .ref (b 0), .ref (o 0), .ref (h 0), .ref (t 0)]))] ++ (HW b cI z))) := by
  refine vx_ofW (cc := cX4_setting) (maxL := 2) (ret := (some .int)) (by decide) rfl ?_
  intro p e s m args below meth c s₁ B hml hxt hv
  obtain ⟨⟨rfl, hP, hK, hD0⟩, hX9, hF⟩ := hv
  have hx := B.exec
  have hb := B.bytes
  have hrt := B.returns
  have hts := atoms_spec (ws := wsX4_setting) B.pre
  have hown : s.vm.findClass RX4 = some m.cls := findClass_of_methodNamed B.named
  have hlocks := B.notSynchronized
  have hl := lv_entry ([.ref (x 0), .int st0]) (n := 2) (Nat.le_of_ble_eq_true rfl)
  rw [lg_entry_eq]
  generalize (lg_sl ([.ref (x 0), .int st0]) ++ List.replicate (2 - (lg_sl ([.ref (x 0), .int st0])).length) Slot.unset).toArray = ls at hl ⊢
  have hl : lv_has ls 2 [(0, .ref (x 0)), (1, .int st0)] := hl
  have hD := kA_self hD0
  obtain ⟨w0, hw0⟩ : ∃ w : va_W, w = [(x 0, .inr (4, [.ref (v 0), .ref (b 0), .ref (o 0), .ref (h 0), .ref (t 0)]))] ++ (HW b cI z) := ⟨_, rfl⟩
  have hD : va_D (kA w0) ([(x 0, .inr (4, [.ref (v 0), .ref (b 0), .ref (o 0), .ref (h 0), .ref (t 0)]))] ++ (HW b cI z)) := by rw [hw0]; exact hD
  have hS : va_S (kA w0) s.heap s.heap [] := va_S.rf
  have hXx : hX y (kA w0) s s.heap := by rw [hw0]; exact hX9
  have hZ := hXx.1
  rw [show kA ([(x 0, .inr (4, [.ref (v 0), .ref (b 0), .ref (o 0), .ref (h 0), .ref (t 0)]))] ++ (HW b cI z)) = kA w0 from by rw [hw0], show kqx D ([(x 0, .inr (4, [.ref (v 0), .ref (b 0), .ref (o 0), .ref (h 0), .ref (t 0)]))] ++ (HW b cI z)) = kqx D w0 from by rw [hw0], show kX D ([(x 0, .inr (4, [.ref (v 0), .ref (b 0), .ref (o 0), .ref (h 0), .ref (t 0)]))] ++ (HW b cI z)) = kX D w0 from by rw [hw0]]
  have hP : va_P D vwCl ([(x 0, .inr (4, [.ref (v 0), .ref (b 0), .ref (o 0), .ref (h 0), .ref (t 0)]))] ++ (HW b cI z)) s.heap := hP
  refine lv_iload_n hx hb dX4_setting_0 rfl (lv_at hl 1 rfl) ?_
  refine kxS (As := [.int st0]) (rest := []) (own := RX4) ⟨hx, hb, hml, hown, hts⟩ (c_X4_checkSetting l hst D cI cC cH cL y  st0 ) (va_cwS 1 hts gX4_setting_X4_checkSetting rfl rfl rfl k_X4_checkSettingS ⟨Nat.le_of_ble_eq_true rfl, Nat.le_of_ble_eq_true rfl⟩) hP hD hK hS hXx hF [] [0, 1, 2, 3, 4, 5, 6, 7, 8, 9] rfl rfl (wr := ([(x 0, .inr (4, [.ref (v 0), .ref (b 0), .ref (o 0), .ref (h 0), .ref (t 0)]))] ++ (HW b cI z))) rfl (by decide) (by decide) (by decide) rfl hl.1 rfl (Nat.le_of_ble_eq_true rfl) dX4_setting_1 ⟨Nat.le_of_ble_eq_true rfl, Nat.le_of_ble_eq_true rfl⟩ (fun E9 ce9 q9 H locs hE hP hD hS hq1 hq2 hq3 => ?_) (fun H locs hT9 hP hD hS => ?_)
  · obtain ⟨hb1_0, rfl⟩ := xE_1 hE
    have hP : va_P D vwCl ([(x 0, .inr (4, [.ref (v 0), .ref (b 0), .ref (o 0), .ref (h 0), .ref (t 0)]))] ++ (HW b cI z)) H := hP.sub [0, 1, 2, 3, 4, 5, 6, 7, 8, 9] rfl
    have hD : va_D (kA w0) ([(x 0, .inr (4, [.ref (v 0), .ref (b 0), .ref (o 0), .ref (h 0), .ref (t 0)]))] ++ (HW b cI z)) := hD.sub [0, 1, 2, 3, 4, 5, 6, 7, 8, 9] (by decide) rfl
    have hT9 : (if wthn st0 (nI 0) (nI 2) = true then 0 else 1 : Nat) = 1 := by first | rfl | omega | (simp [Int32.not_lt, Int32.not_le, hb1_0, wtq (n := 2) hb1_0]; done) | (simp [Int32.not_lt, Int32.not_le, hb1_0, wtq (n := 2) hb1_0]; omega) | (revert hb1_0; simp +contextual [Int32.not_lt, Int32.not_le]; done) | (revert hb1_0; simp +contextual [Int32.not_lt, Int32.not_le]; omega)
    subst hw0
    exact kxO hxt hlocks (Or.inl ⟨hT9, rfl⟩) hP hD hS hq1 hq2 hq3 (Nat.le_of_ble_eq_true rfl) (Nat.le_of_ble_eq_true rfl)
  · have hb1_0 := t0_t hT9
    have hP : va_P D vwCl ([(x 0, .inr (4, [.ref (v 0), .ref (b 0), .ref (o 0), .ref (h 0), .ref (t 0)]))] ++ (HW b cI z)) H := hP.sub [0, 1, 2, 3, 4, 5, 6, 7, 8, 9] rfl
    have hD : va_D (kA w0) ([(x 0, .inr (4, [.ref (v 0), .ref (b 0), .ref (o 0), .ref (h 0), .ref (t 0)]))] ++ (HW b cI z)) := hD.sub [0, 1, 2, 3, 4, 5, 6, 7, 8, 9] (by decide) rfl
    obtain ⟨q0, hq0, rfl⟩ := (fun h => wthn3_out (wtq (n := 2) h)) hb1_0
    have hc_q0 : cl (nI q0) = q0 := cl_nI (show q0 < 2 ^ 31 by omega)
    refine lv_aload_n hx hb dX4_setting_4 rfl (lv_at hl 0 rfl) ?_
    refine va_get (D := D) (ci := 4) (v := .ref (b 0)) (C := RX4) (T := TX4) (N := 5) hx hb hts iX4_setting_4 hown hK hP 0 rfl rfl 1 (by decide) (hts (.fieldLink RX4 20 "HallSights" "hall" "LHallSights$Hall;") (List.mem_of_getElem? (i := 1) rfl)) (fun _ h9 => h9) rfl dX4_setting_5 ?_
    refine va_get (D := D) (ci := 0) (v := .ref (b 8)) (C := RX0) (T := TX0) (N := 10) hx hb hts iX4_setting_0 hown hK hP 1 rfl rfl 9 (by decide) (hts (.fieldLink RX4 113 "HallSights$Hall" "settings" "[I") (List.mem_of_getElem? (i := 2) rfl)) (fun _ h9 => h9) rfl dX4_setting_8 ?_
    refine lv_iload_n hx hb dX4_setting_11 rfl (lv_at hl 1 rfl) ?_
    refine kx_iald hx hb hK hP 9 0 rfl rfl (by omega) (by decide) dX4_setting_12 ?_
    have e_1 : (z q0 : Int32) = (z (cl (nI q0))) := by first | rfl | omega | (simp [Int32.not_lt, Int32.not_le, wtq (n := 2) hb1_0, hb1_0, hc_q0]; done) | (simp [Int32.not_lt, Int32.not_le, wtq (n := 2) hb1_0, hb1_0, hc_q0]; omega) | (revert hb1_0 hc_q0; simp +contextual [Int32.not_lt, Int32.not_le]; done) | (revert hb1_0 hc_q0; simp +contextual [Int32.not_lt, Int32.not_le]; omega)
    have hT9 : (if wthn (nI q0) (nI 0) (nI 2) = true then 0 else 1 : Nat) = 0 := by first | rfl | omega | (simp [Int32.not_lt, Int32.not_le, wtq (n := 2) hb1_0, hb1_0, hc_q0]; done) | (simp [Int32.not_lt, Int32.not_le, wtq (n := 2) hb1_0, hb1_0, hc_q0]; omega) | (revert hb1_0 hc_q0; simp +contextual [Int32.not_lt, Int32.not_le]; done) | (revert hb1_0 hc_q0; simp +contextual [Int32.not_lt, Int32.not_le]; omega)
    subst hw0
    exact kX_iret hx hb hrt hlocks hT9 e_1 hP hD hS ⟨Nat.le_of_ble_eq_true rfl, Nat.le_of_ble_eq_true rfl⟩ dX4_setting_13
set_option maxRecDepth 20000 in
theorem iX4_leastHeight_4 : ∀ w ∈ wsX40, w ∈ wsX4_leastHeight := by decide +kernel
set_option maxHeartbeats 4000000 in
set_option maxRecDepth 100000 in
theorem c_X4_leastHeight (l : Launch) (hst : l.stackTraces = false) (D : va_G) (cI cC cH cL : ClassId) (y : Nat → Nat) (x b v u o h t : Nat → Nat) (z : ZZ) (ro : Int32) (hA : VAL z) : vx_Met l yX4_leastHeight wsX4_leastHeight ({ frames := 7, cells := 1, slots := 6, locals := 103 }) (kwx y [.ref (x 0), .int ro] D ([(x 0, .inr (4, [.ref (v 0), .ref (b 0), .ref (o 0), .ref (h 0), .ref (t 0)]))] ++ (HW b cI z)) (kT cI cC cH cL)) (kqx D ([(x 0, .inr (4, [.ref (v 0), .ref (b 0), .ref (o 0), .ref (h 0), .ref (t 0)]))] ++ (HW b cI z)) (tRow z ro) ([(x 0, .inr (4, [.ref (v 0), .ref (b 0), .ref (o 0), .ref (h 0), .ref (t 0)]))] ++ (HW b cI z)) (.returned (some (.int (leastForI z (cl ro)))))) (kX D ([(x 0, .inr (4, [.ref (v 0), .ref (b 0), .ref (o 0), .ref (h 0), .ref (t 0)]))] ++ (HW b cI z)) "java/lang/IndexOutOfBoundsException" "java/lang/IndexOutOfBoundsException" (tRow z ro) ([(x 0, .inr (4, [.ref (v 0), .ref (b 0), .ref (o 0), .ref (h 0), .ref (t 0)]))] ++ (HW b cI z))) 1 6 (kA ([(x 0, .inr (4, [.ref (v 0), .ref (b 0), .ref (o 0), .ref (h 0), .ref (t 0)]))] ++ (HW b cI z))) := by
  refine vx_ofW (cc := cX4_leastHeight) (maxL := 2) (ret := (some .int)) (by decide) rfl ?_
  intro p e s m args below meth c s₁ B hml hxt hv
  obtain ⟨⟨rfl, hP, hK, hD0⟩, hX9, hF⟩ := hv
  have hx := B.exec
  have hb := B.bytes
  have hrt := B.returns
  have hts := atoms_spec (ws := wsX4_leastHeight) B.pre
  have hown : s.vm.findClass RX4 = some m.cls := findClass_of_methodNamed B.named
  have hlocks := B.notSynchronized
  have hl := lv_entry ([.ref (x 0), .int ro]) (n := 2) (Nat.le_of_ble_eq_true rfl)
  rw [lg_entry_eq]
  generalize (lg_sl ([.ref (x 0), .int ro]) ++ List.replicate (2 - (lg_sl ([.ref (x 0), .int ro])).length) Slot.unset).toArray = ls at hl ⊢
  have hl : lv_has ls 2 [(0, .ref (x 0)), (1, .int ro)] := hl
  have hD := kA_self hD0
  obtain ⟨w0, hw0⟩ : ∃ w : va_W, w = [(x 0, .inr (4, [.ref (v 0), .ref (b 0), .ref (o 0), .ref (h 0), .ref (t 0)]))] ++ (HW b cI z) := ⟨_, rfl⟩
  have hD : va_D (kA w0) ([(x 0, .inr (4, [.ref (v 0), .ref (b 0), .ref (o 0), .ref (h 0), .ref (t 0)]))] ++ (HW b cI z)) := by rw [hw0]; exact hD
  have hS : va_S (kA w0) s.heap s.heap [] := va_S.rf
  have hXx : hX y (kA w0) s s.heap := by rw [hw0]; exact hX9
  have hZ := hXx.1
  rw [show kA ([(x 0, .inr (4, [.ref (v 0), .ref (b 0), .ref (o 0), .ref (h 0), .ref (t 0)]))] ++ (HW b cI z)) = kA w0 from by rw [hw0], show kqx D ([(x 0, .inr (4, [.ref (v 0), .ref (b 0), .ref (o 0), .ref (h 0), .ref (t 0)]))] ++ (HW b cI z)) = kqx D w0 from by rw [hw0], show kX D ([(x 0, .inr (4, [.ref (v 0), .ref (b 0), .ref (o 0), .ref (h 0), .ref (t 0)]))] ++ (HW b cI z)) = kX D w0 from by rw [hw0]]
  have hP : va_P D vwCl ([(x 0, .inr (4, [.ref (v 0), .ref (b 0), .ref (o 0), .ref (h 0), .ref (t 0)]))] ++ (HW b cI z)) s.heap := hP
  have hw := hA.1
  have hR10 := wf_R10 hw
  have hC4 := wf_C4 hw
  have hR1000 : nR z ≤ 1000 := by omega
  have hC1000 : nC z ≤ 1000 := by omega
  refine lv_aload_n hx hb dX4_leastHeight_0 rfl (lv_at hl 0 rfl) ?_
  refine lv_iload_n hx hb dX4_leastHeight_1 rfl (lv_at hl 1 rfl) ?_
  refine kxV (As := [.int ro]) (rest := []) (C := RX4) (own := RX4) ⟨hx, hb, hml, hown, hts⟩ (c_X4_checkRow l hst D cI cC cH cL y x b v u o h t z ro (by first | assumption | omega)) (cwV 1 hts gX4_leastHeight_X4_checkRow rfl rfl rfl k_X4_checkRow ⟨Nat.le_of_ble_eq_true rfl, Nat.le_of_ble_eq_true rfl⟩) hP hD hK hS hXx hF [0, 1, 2, 3, 4, 5, 6, 7, 8, 9] [] rfl rfl (wr := []) rfl (by decide) (by decide) (by decide) (va_recv (q := (RX4, TX4, 5)) hK hP (ci := 4) (q0 := 0) rfl rfl) rfl hl.1 rfl (Nat.le_of_ble_eq_true rfl) dX4_leastHeight_2 ⟨Nat.le_of_ble_eq_true rfl, Nat.le_of_ble_eq_true rfl⟩ (fun E9 ce9 q9 H locs hE hP hD hS hq1 hq2 hq3 => ?_) (fun H locs hT9 hP hD hS => ?_)
  · obtain ⟨hb2_0, rfl⟩ := xE_1 hE
    have hP : va_P D vwCl ([(x 0, .inr (4, [.ref (v 0), .ref (b 0), .ref (o 0), .ref (h 0), .ref (t 0)]))] ++ (HW b cI z)) H := hP
    have hD : va_D (kA w0) ([(x 0, .inr (4, [.ref (v 0), .ref (b 0), .ref (o 0), .ref (h 0), .ref (t 0)]))] ++ (HW b cI z)) := hD
    have hT9 : (tRow z ro : Nat) = 1 := by first | rfl | omega | (simp [tRow, Int32.not_lt, Int32.not_le, hb2_0]; done) | (simp [tRow, Int32.not_lt, Int32.not_le, hb2_0]; omega) | (revert hb2_0; simp +contextual [tRow, Int32.not_lt, Int32.not_le]; done) | (revert hb2_0; simp +contextual [tRow, Int32.not_lt, Int32.not_le]; omega)
    subst hw0
    exact kxO hxt hlocks (Or.inl ⟨hT9, rfl⟩) hP hD hS hq1 hq2 hq3 (Nat.le_of_ble_eq_true rfl) (Nat.le_of_ble_eq_true rfl)
  · have hb2_0 := t0_t hT9
    have hP : va_P D vwCl ([(x 0, .inr (4, [.ref (v 0), .ref (b 0), .ref (o 0), .ref (h 0), .ref (t 0)]))] ++ (HW b cI z)) H := hP
    have hD : va_D (kA w0) ([(x 0, .inr (4, [.ref (v 0), .ref (b 0), .ref (o 0), .ref (h 0), .ref (t 0)]))] ++ (HW b cI z)) := hD
    obtain ⟨r0, hr0, rfl⟩ := isRow_out hw hb2_0
    have hc_r0 : cl (nI r0) = r0 := cl_nI (show r0 < 2 ^ 31 by omega)
    refine lv_aload_n hx hb dX4_leastHeight_5 rfl (lv_at hl 0 rfl) ?_
    refine va_get (D := D) (ci := 4) (v := .ref (b 0)) (C := RX4) (T := TX4) (N := 5) hx hb hts iX4_leastHeight_4 hown hK hP 0 rfl rfl 1 (by decide) (hts (.fieldLink RX4 20 "HallSights" "hall" "LHallSights$Hall;") (List.mem_of_getElem? (i := 1) rfl)) (fun _ h9 => h9) rfl dX4_leastHeight_6 ?_
    refine lv_iload_n hx hb dX4_leastHeight_9 rfl (lv_at hl 1 rfl) ?_
    refine kr_V (As := [.int (nI r0)]) (rest := []) (C := RX0) (own := RX4) ⟨hx, hb, hml, hown, hts⟩ (c_X0_lowestHeight l D cI cC cH cL b z r0 (by exact hA) (by first | assumption | omega)) (cwV 1 hts gX4_leastHeight_X0_lowestHeight rfl rfl rfl k_X0_lowestHeight ⟨Nat.le_of_ble_eq_true rfl, Nat.le_of_ble_eq_true rfl⟩) (hP.sub (ws' := (HW b cI z)) [1, 2, 3, 4, 5, 6, 7, 8, 9] rfl) hK (va_recv (q := (RX0, TX0, 10)) hK hP (ci := 0) (q0 := 1) rfl rfl) rfl hl.1 rfl (Nat.le_of_ble_eq_true rfl) dX4_leastHeight_10 ⟨Nat.le_of_ble_eq_true rfl, Nat.le_of_ble_eq_true rfl⟩ ?_
    have e_1 : (leastForI z r0 : Int32) = (leastForI z (cl (nI r0))) := by first | rfl | omega | (simp [tRow, Int32.not_lt, Int32.not_le, hb2_0, hc_r0]; done) | (simp [tRow, Int32.not_lt, Int32.not_le, hb2_0, hc_r0]; omega) | (revert hb2_0 hc_r0; simp +contextual [tRow, Int32.not_lt, Int32.not_le]; done) | (revert hb2_0 hc_r0; simp +contextual [tRow, Int32.not_lt, Int32.not_le]; omega)
    have hT9 : (tRow z (nI r0) : Nat) = 0 := by first | rfl | omega | (simp [tRow, Int32.not_lt, Int32.not_le, hb2_0, hc_r0]; done) | (simp [tRow, Int32.not_lt, Int32.not_le, hb2_0, hc_r0]; omega) | (revert hb2_0 hc_r0; simp +contextual [tRow, Int32.not_lt, Int32.not_le]; done) | (revert hb2_0 hc_r0; simp +contextual [tRow, Int32.not_lt, Int32.not_le]; omega)
    subst hw0
    exact kX_iret hx hb hrt hlocks hT9 e_1 hP hD hS ⟨Nat.le_of_ble_eq_true rfl, Nat.le_of_ble_eq_true rfl⟩ dX4_leastHeight_13
set_option maxHeartbeats 4000000 in
set_option maxRecDepth 100000 in
theorem c_X4_ifLifted (l : Launch) (hst : l.stackTraces = false) (D : va_G) (cI cC cH cL : ClassId) (y : Nat → Nat) (x b v u o h t : Nat → Nat) (z : ZZ) (z2 : ZZ) (lk2 : Bool) (pe2 cn2 rk2 : ZZ) (ro : Int32) (h0 : Int32) (hw : WF z) (hws : WS z) : vx_Met l yX4_ifLifted wsX4_ifLifted ({ frames := 7, cells := 2, slots := 12, locals := 137 }) (kwx y [.ref (x 0), .int ro, .int h0] D ([(x 0, .inr (4, [.ref (v 0), .ref (b 0), .ref (o 0), .ref (h 0), .ref (t 0)]))] ++ (HW b cI z ++ (HW u cI z2 ++ (SW o (u 0) cI (bI lk2) pe2 cn2 rk2)))) (kT cI cC cH cL)) (kqx D ([(x 0, .inr (4, [.ref (v 0), .ref (b 0), .ref (o 0), .ref (h 0), .ref (t 0)]))] ++ (HW b cI z ++ (HW u cI z2 ++ (SW o (u 0) cI (bI lk2) pe2 cn2 rk2)))) (tLift z ro h0) ([(x 0, .inr (4, [.ref (v 0), .ref (b 0), .ref (o 0), .ref (h 0), .ref (t 0)]))] ++ (HW b cI z ++ (HW u cI (upd z (5 + 4 * cl ro + 1) h0) ++ (SW o (u 0) cI (bI true) (lkP false (people (upd z (5 + 4 * cl ro + 1) h0)) (upd z (5 + 4 * cl ro + 1) h0) pe2) (lkP false ((fun r s => colsW (upd z (5 + 4 * cl ro + 1) h0) r s (-1))) (upd z (5 + 4 * cl ro + 1) h0) cn2) (lkP false (rkN (upd z (5 + 4 * cl ro + 1) h0)) (upd z (5 + 4 * cl ro + 1) h0) rk2))))) (.returned (some (.int (nI (liftThen z (cl ro) h0)))))) (kX D ([(x 0, .inr (4, [.ref (v 0), .ref (b 0), .ref (o 0), .ref (h 0), .ref (t 0)]))] ++ (HW b cI z ++ (HW u cI z2 ++ (SW o (u 0) cI (bI lk2) pe2 cn2 rk2)))) "java/lang/IndexOutOfBoundsException" "java/lang/IllegalArgumentException" (tLift z ro h0) ([(x 0, .inr (4, [.ref (v 0), .ref (b 0), .ref (o 0), .ref (h 0), .ref (t 0)]))] ++ (HW b cI z ++ (HW u cI z2 ++ (SW o (u 0) cI (bI lk2) pe2 cn2 rk2))))) 2 12 (kA ([(x 0, .inr (4, [.ref (v 0), .ref (b 0), .ref (o 0), .ref (h 0), .ref (t 0)]))] ++ (HW b cI z ++ (HW u cI z2 ++ (SW o (u 0) cI (bI lk2) pe2 cn2 rk2))))) := by
  refine vx_ofW (cc := cX4_ifLifted) (maxL := 3) (ret := (some .int)) (by decide) rfl ?_
  intro p e s m args below meth c s₁ B hml hxt hv
  obtain ⟨⟨rfl, hP, hK, hD0⟩, hX9, hF⟩ := hv
  have hx := B.exec
  have hb := B.bytes
  have hrt := B.returns
  have hts := atoms_spec (ws := wsX4_ifLifted) B.pre
  have hown : s.vm.findClass RX4 = some m.cls := findClass_of_methodNamed B.named
  have hlocks := B.notSynchronized
  have hl := lv_entry ([.ref (x 0), .int ro, .int h0]) (n := 3) (Nat.le_of_ble_eq_true rfl)
  rw [lg_entry_eq]
  generalize (lg_sl ([.ref (x 0), .int ro, .int h0]) ++ List.replicate (3 - (lg_sl ([.ref (x 0), .int ro, .int h0])).length) Slot.unset).toArray = ls at hl ⊢
  have hl : lv_has ls 3 [(0, .ref (x 0)), (1, .int ro), (2, .int h0)] := hl
  have hD := kA_self hD0
  obtain ⟨w0, hw0⟩ : ∃ w : va_W, w = [(x 0, .inr (4, [.ref (v 0), .ref (b 0), .ref (o 0), .ref (h 0), .ref (t 0)]))] ++ (HW b cI z ++ (HW u cI z2 ++ (SW o (u 0) cI (bI lk2) pe2 cn2 rk2))) := ⟨_, rfl⟩
  have hD : va_D (kA w0) ([(x 0, .inr (4, [.ref (v 0), .ref (b 0), .ref (o 0), .ref (h 0), .ref (t 0)]))] ++ (HW b cI z ++ (HW u cI z2 ++ (SW o (u 0) cI (bI lk2) pe2 cn2 rk2)))) := by rw [hw0]; exact hD
  have hS : va_S (kA w0) s.heap s.heap [] := va_S.rf
  have hXx : hX y (kA w0) s s.heap := by rw [hw0]; exact hX9
  have hZ := hXx.1
  rw [show kA ([(x 0, .inr (4, [.ref (v 0), .ref (b 0), .ref (o 0), .ref (h 0), .ref (t 0)]))] ++ (HW b cI z ++ (HW u cI z2 ++ (SW o (u 0) cI (bI lk2) pe2 cn2 rk2)))) = kA w0 from by rw [hw0], show kqx D ([(x 0, .inr (4, [.ref (v 0), .ref (b 0), .ref (o 0), .ref (h 0), .ref (t 0)]))] ++ (HW b cI z ++ (HW u cI z2 ++ (SW o (u 0) cI (bI lk2) pe2 cn2 rk2)))) = kqx D w0 from by rw [hw0], show kX D ([(x 0, .inr (4, [.ref (v 0), .ref (b 0), .ref (o 0), .ref (h 0), .ref (t 0)]))] ++ (HW b cI z ++ (HW u cI z2 ++ (SW o (u 0) cI (bI lk2) pe2 cn2 rk2)))) = kX D w0 from by rw [hw0]]
  have hP : va_P D vwCl ([(x 0, .inr (4, [.ref (v 0), .ref (b 0), .ref (o 0), .ref (h 0), .ref (t 0)]))] ++ (HW b cI z ++ (HW u cI z2 ++ (SW o (u 0) cI (bI lk2) pe2 cn2 rk2)))) s.heap := hP
  have hR10 := wf_R10 hw
  have hC4 := wf_C4 hw
  have hR1000 : nR z ≤ 1000 := by omega
  have hC1000 : nC z ≤ 1000 := by omega
  refine lv_aload_n hx hb dX4_ifLifted_0 rfl (lv_at hl 0 rfl) ?_
  refine lv_iload_n hx hb dX4_ifLifted_1 rfl (lv_at hl 1 rfl) ?_
  refine kxV (As := [.int ro]) (rest := []) (C := RX4) (own := RX4) ⟨hx, hb, hml, hown, hts⟩ (c_X4_checkRow l hst D cI cC cH cL y x b v u o h t z ro (by first | assumption | omega)) (cwV 1 hts gX4_ifLifted_X4_checkRow rfl rfl rfl k_X4_checkRow ⟨Nat.le_of_ble_eq_true rfl, Nat.le_of_ble_eq_true rfl⟩) hP hD hK hS hXx hF [0, 1, 2, 3, 4, 5, 6, 7, 8, 9] [10, 11, 12, 13, 14, 15, 16, 17, 18, 19, 20, 21, 22] rfl rfl (wr := (HW u cI z2 ++ (SW o (u 0) cI (bI lk2) pe2 cn2 rk2))) rfl (by decide) (by decide) (by decide) (va_recv (q := (RX4, TX4, 5)) hK hP (ci := 4) (q0 := 0) rfl rfl) rfl hl.1 rfl (Nat.le_of_ble_eq_true rfl) dX4_ifLifted_2 ⟨Nat.le_of_ble_eq_true rfl, Nat.le_of_ble_eq_true rfl⟩ (fun E9 ce9 q9 H locs hE hP hD hS hq1 hq2 hq3 => ?_) (fun H locs hT9 hP hD hS => ?_)
  · obtain ⟨hb2_0, rfl⟩ := xE_1 hE
    have hP : va_P D vwCl ([(x 0, .inr (4, [.ref (v 0), .ref (b 0), .ref (o 0), .ref (h 0), .ref (t 0)]))] ++ (HW b cI z ++ (HW u cI z2 ++ (SW o (u 0) cI (bI lk2) pe2 cn2 rk2)))) H := hP.sub [13, 14, 15, 16, 17, 18, 19, 20, 21, 22, 0, 1, 2, 3, 4, 5, 6, 7, 8, 9, 10, 11, 12] rfl
    have hD : va_D (kA w0) ([(x 0, .inr (4, [.ref (v 0), .ref (b 0), .ref (o 0), .ref (h 0), .ref (t 0)]))] ++ (HW b cI z ++ (HW u cI z2 ++ (SW o (u 0) cI (bI lk2) pe2 cn2 rk2)))) := hD.sub [13, 14, 15, 16, 17, 18, 19, 20, 21, 22, 0, 1, 2, 3, 4, 5, 6, 7, 8, 9, 10, 11, 12] (by decide) rfl
    have hT9 : (tLift z ro h0 : Nat) = 1 := by first | rfl | omega | (simp [tLift, Int32.not_lt, Int32.not_le, hb2_0]; done) | (simp [tLift, Int32.not_lt, Int32.not_le, hb2_0]; omega) | (revert hb2_0; simp +contextual [tLift, Int32.not_lt, Int32.not_le]; done) | (revert hb2_0; simp +contextual [tLift, Int32.not_lt, Int32.not_le]; omega)
    subst hw0
    exact kxO hxt hlocks (Or.inl ⟨hT9, rfl⟩) hP hD hS hq1 hq2 hq3 (Nat.le_of_ble_eq_true rfl) (Nat.le_of_ble_eq_true rfl)
  · have hb2_0 := t0_t hT9
    have hP : va_P D vwCl ([(x 0, .inr (4, [.ref (v 0), .ref (b 0), .ref (o 0), .ref (h 0), .ref (t 0)]))] ++ (HW b cI z ++ (HW u cI z2 ++ (SW o (u 0) cI (bI lk2) pe2 cn2 rk2)))) H := hP.sub [13, 14, 15, 16, 17, 18, 19, 20, 21, 22, 0, 1, 2, 3, 4, 5, 6, 7, 8, 9, 10, 11, 12] rfl
    have hD : va_D (kA w0) ([(x 0, .inr (4, [.ref (v 0), .ref (b 0), .ref (o 0), .ref (h 0), .ref (t 0)]))] ++ (HW b cI z ++ (HW u cI z2 ++ (SW o (u 0) cI (bI lk2) pe2 cn2 rk2)))) := hD.sub [13, 14, 15, 16, 17, 18, 19, 20, 21, 22, 0, 1, 2, 3, 4, 5, 6, 7, 8, 9, 10, 11, 12] (by decide) rfl
    obtain ⟨r0, hr0, rfl⟩ := isRow_out hw hb2_0
    have hc_r0 : cl (nI r0) = r0 := cl_nI (show r0 < 2 ^ 31 by omega)
    refine lv_iload_n hx hb dX4_ifLifted_5 rfl (lv_at hl 2 rfl) ?_
    refine kxS (As := [.int h0]) (rest := []) (own := RX4) ⟨hx, hb, hml, hown, hts⟩ (c_X4_checkHeight l hst D cI cC cH cL y  h0 ) (va_cwS 1 hts gX4_ifLifted_X4_checkHeight rfl rfl rfl k_X4_checkHeightS ⟨Nat.le_of_ble_eq_true rfl, Nat.le_of_ble_eq_true rfl⟩) hP hD hK hS hXx hF [] [0, 1, 2, 3, 4, 5, 6, 7, 8, 9, 10, 11, 12, 13, 14, 15, 16, 17, 18, 19, 20, 21, 22] rfl rfl (wr := ([(x 0, .inr (4, [.ref (v 0), .ref (b 0), .ref (o 0), .ref (h 0), .ref (t 0)]))] ++ (HW b cI z ++ (HW u cI z2 ++ (SW o (u 0) cI (bI lk2) pe2 cn2 rk2))))) rfl (by decide) (by decide) (by decide) rfl hl.1 rfl (Nat.le_of_ble_eq_true rfl) dX4_ifLifted_6 ⟨Nat.le_of_ble_eq_true rfl, Nat.le_of_ble_eq_true rfl⟩ (fun E9 ce9 q9 H locs hE hP hD hS hq1 hq2 hq3 => ?_) (fun H locs hT9 hP hD hS => ?_)
    · obtain ⟨hb6_1, rfl⟩ := xE_1 hE
      have hP : va_P D vwCl ([(x 0, .inr (4, [.ref (v 0), .ref (b 0), .ref (o 0), .ref (h 0), .ref (t 0)]))] ++ (HW b cI z ++ (HW u cI z2 ++ (SW o (u 0) cI (bI lk2) pe2 cn2 rk2)))) H := hP.sub [0, 1, 2, 3, 4, 5, 6, 7, 8, 9, 10, 11, 12, 13, 14, 15, 16, 17, 18, 19, 20, 21, 22] rfl
      have hD : va_D (kA w0) ([(x 0, .inr (4, [.ref (v 0), .ref (b 0), .ref (o 0), .ref (h 0), .ref (t 0)]))] ++ (HW b cI z ++ (HW u cI z2 ++ (SW o (u 0) cI (bI lk2) pe2 cn2 rk2)))) := hD.sub [0, 1, 2, 3, 4, 5, 6, 7, 8, 9, 10, 11, 12, 13, 14, 15, 16, 17, 18, 19, 20, 21, 22] (by decide) rfl
      have hT9 : (tLift z (nI r0) h0 : Nat) = 2 := by first | rfl | omega | (simp [tLift, Int32.not_lt, Int32.not_le, hb2_0, hc_r0, hb6_1]; done) | (simp [tLift, Int32.not_lt, Int32.not_le, hb2_0, hc_r0, hb6_1]; omega) | (revert hb2_0 hc_r0 hb6_1; simp +contextual [tLift, Int32.not_lt, Int32.not_le]; done) | (revert hb2_0 hc_r0 hb6_1; simp +contextual [tLift, Int32.not_lt, Int32.not_le]; omega)
      subst hw0
      exact kxO hxt hlocks (Or.inr ⟨hT9, rfl⟩) hP hD hS hq1 hq2 hq3 (Nat.le_of_ble_eq_true rfl) (Nat.le_of_ble_eq_true rfl)
    · have hb6_1 := t0_t hT9
      have hP : va_P D vwCl ([(x 0, .inr (4, [.ref (v 0), .ref (b 0), .ref (o 0), .ref (h 0), .ref (t 0)]))] ++ (HW b cI z ++ (HW u cI z2 ++ (SW o (u 0) cI (bI lk2) pe2 cn2 rk2)))) H := hP.sub [0, 1, 2, 3, 4, 5, 6, 7, 8, 9, 10, 11, 12, 13, 14, 15, 16, 17, 18, 19, 20, 21, 22] rfl
      have hD : va_D (kA w0) ([(x 0, .inr (4, [.ref (v 0), .ref (b 0), .ref (o 0), .ref (h 0), .ref (t 0)]))] ++ (HW b cI z ++ (HW u cI z2 ++ (SW o (u 0) cI (bI lk2) pe2 cn2 rk2)))) := hD.sub [0, 1, 2, 3, 4, 5, 6, 7, 8, 9, 10, 11, 12, 13, 14, 15, 16, 17, 18, 19, 20, 21, 22] (by decide) rfl
      refine lv_aload_n hx hb dX4_ifLifted_9 rfl (lv_at hl 0 rfl) ?_
      refine lv_iload_n hx hb dX4_ifLifted_10 rfl (lv_at hl 1 rfl) ?_
      refine lv_iload_n hx hb dX4_ifLifted_11 rfl (lv_at hl 2 rfl) ?_
      refine kw_V (As := [.int (nI r0), .int h0]) (rest := []) (C := RX4) (own := RX4) ⟨hx, hb, hml, hown, hts⟩ (c_X4_takenSeeingAt l D cI cC cH cL x b v u o h t z z2 lk2 pe2 cn2 rk2 r0 h0 (by first | assumption | omega) (by first | assumption | omega) (by first | assumption | omega)) (cwV 2 hts gX4_ifLifted_X4_takenSeeingAt rfl rfl rfl k_X4_takenSeeingAt ⟨Nat.le_of_ble_eq_true rfl, Nat.le_of_ble_eq_true rfl⟩) hP hD hK hS [0, 1, 2, 3, 4, 5, 6, 7, 8, 9, 10, 11, 12, 13, 14, 15, 16, 17, 18, 19, 20, 21, 22] [] rfl rfl (wr := []) rfl (by decide) (by decide) (by decide) (va_recv (q := (RX4, TX4, 5)) hK hP (ci := 4) (q0 := 0) rfl rfl) rfl hl.1 rfl (Nat.le_of_ble_eq_true rfl) dX4_ifLifted_12 ⟨Nat.le_of_ble_eq_true rfl, Nat.le_of_ble_eq_true rfl⟩ (fun H locs hP hD hS => ?_)
      have hP : va_P D vwCl ([(x 0, .inr (4, [.ref (v 0), .ref (b 0), .ref (o 0), .ref (h 0), .ref (t 0)]))] ++ (HW b cI z ++ (HW u cI (upd z (5 + 4 * r0 + 1) h0) ++ (SW o (u 0) cI (bI true) (lkP false (people (upd z (5 + 4 * r0 + 1) h0)) (upd z (5 + 4 * r0 + 1) h0) pe2) (lkP false ((fun r s => colsW (upd z (5 + 4 * r0 + 1) h0) r s (-1))) (upd z (5 + 4 * r0 + 1) h0) cn2) (lkP false (rkN (upd z (5 + 4 * r0 + 1) h0)) (upd z (5 + 4 * r0 + 1) h0) rk2))))) H := hP
      have hD : va_D (kA w0) ([(x 0, .inr (4, [.ref (v 0), .ref (b 0), .ref (o 0), .ref (h 0), .ref (t 0)]))] ++ (HW b cI z ++ (HW u cI (upd z (5 + 4 * r0 + 1) h0) ++ (SW o (u 0) cI (bI true) (lkP false (people (upd z (5 + 4 * r0 + 1) h0)) (upd z (5 + 4 * r0 + 1) h0) pe2) (lkP false ((fun r s => colsW (upd z (5 + 4 * r0 + 1) h0) r s (-1))) (upd z (5 + 4 * r0 + 1) h0) cn2) (lkP false (rkN (upd z (5 + 4 * r0 + 1) h0)) (upd z (5 + 4 * r0 + 1) h0) rk2))))) := hD
      have e_2 : (liftThen z r0 h0 : Nat) = (liftThen z (cl (nI r0)) h0) := by first | rfl | omega | (simp [tLift, Int32.not_lt, Int32.not_le, hb2_0, hc_r0, (wt_t hb6_1).1, (wt_t hb6_1).2, hb6_1]; done) | (simp [tLift, Int32.not_lt, Int32.not_le, hb2_0, hc_r0, (wt_t hb6_1).1, (wt_t hb6_1).2, hb6_1]; omega) | (revert hb2_0 hc_r0 hb6_1; simp +contextual [tLift, Int32.not_lt, Int32.not_le]; done) | (revert hb2_0 hc_r0 hb6_1; simp +contextual [tLift, Int32.not_lt, Int32.not_le]; omega)
      have ez_3 : ((upd z (5 + 4 * r0 + 1) h0) : ZZ) = ((upd z (5 + 4 * cl (nI r0) + 1) h0) : ZZ) := by rw [hc_r0]
      have ewez_3 : ([(x 0, .inr (4, [.ref (v 0), .ref (b 0), .ref (o 0), .ref (h 0), .ref (t 0)]))] ++ (HW b cI z ++ (HW u cI (upd z (5 + 4 * r0 + 1) h0) ++ (SW o (u 0) cI (bI true) (lkP false (people (upd z (5 + 4 * r0 + 1) h0)) (upd z (5 + 4 * r0 + 1) h0) pe2) (lkP false ((fun r s => colsW (upd z (5 + 4 * r0 + 1) h0) r s (-1))) (upd z (5 + 4 * r0 + 1) h0) cn2) (lkP false (rkN (upd z (5 + 4 * r0 + 1) h0)) (upd z (5 + 4 * r0 + 1) h0) rk2)))) : va_W) = _ := congrArg (fun yy : ZZ => ([(x 0, .inr (4, [.ref (v 0), .ref (b 0), .ref (o 0), .ref (h 0), .ref (t 0)]))] ++ (HW b cI z ++ (HW u cI yy ++ (SW o (u 0) cI (bI true) (lkP false (people (upd z (5 + 4 * r0 + 1) h0)) (upd z (5 + 4 * r0 + 1) h0) pe2) (lkP false ((fun r s => colsW (upd z (5 + 4 * r0 + 1) h0) r s (-1))) (upd z (5 + 4 * r0 + 1) h0) cn2) (lkP false (rkN (upd z (5 + 4 * r0 + 1) h0)) (upd z (5 + 4 * r0 + 1) h0) rk2)))) : va_W)) ez_3
      have hP : va_P D vwCl ([(x 0, .inr (4, [.ref (v 0), .ref (b 0), .ref (o 0), .ref (h 0), .ref (t 0)]))] ++ (HW b cI z ++ (HW u cI (upd z (5 + 4 * cl (nI r0) + 1) h0) ++ (SW o (u 0) cI (bI true) (lkP false (people (upd z (5 + 4 * r0 + 1) h0)) (upd z (5 + 4 * r0 + 1) h0) pe2) (lkP false ((fun r s => colsW (upd z (5 + 4 * r0 + 1) h0) r s (-1))) (upd z (5 + 4 * r0 + 1) h0) cn2) (lkP false (rkN (upd z (5 + 4 * r0 + 1) h0)) (upd z (5 + 4 * r0 + 1) h0) rk2))))) _ := Eq.mp (congrArg (fun yy => va_P D vwCl yy _) ewez_3) hP
      have hD : va_D (kA w0) ([(x 0, .inr (4, [.ref (v 0), .ref (b 0), .ref (o 0), .ref (h 0), .ref (t 0)]))] ++ (HW b cI z ++ (HW u cI (upd z (5 + 4 * cl (nI r0) + 1) h0) ++ (SW o (u 0) cI (bI true) (lkP false (people (upd z (5 + 4 * r0 + 1) h0)) (upd z (5 + 4 * r0 + 1) h0) pe2) (lkP false ((fun r s => colsW (upd z (5 + 4 * r0 + 1) h0) r s (-1))) (upd z (5 + 4 * r0 + 1) h0) cn2) (lkP false (rkN (upd z (5 + 4 * r0 + 1) h0)) (upd z (5 + 4 * r0 + 1) h0) rk2))))) := Eq.mp (congrArg (fun yy => va_D (kA w0) yy) ewez_3) hD
      have ez_4 : ((lkP false (people (upd z (5 + 4 * r0 + 1) h0)) (upd z (5 + 4 * r0 + 1) h0) pe2) : ZZ) = (lkP false (people (upd z (5 + 4 * cl (nI r0) + 1) h0)) (upd z (5 + 4 * cl (nI r0) + 1) h0) pe2) := by rw [hc_r0]
      have ewez_4 : ([(x 0, .inr (4, [.ref (v 0), .ref (b 0), .ref (o 0), .ref (h 0), .ref (t 0)]))] ++ (HW b cI z ++ (HW u cI (upd z (5 + 4 * cl (nI r0) + 1) h0) ++ (SW o (u 0) cI (bI true) (lkP false (people (upd z (5 + 4 * r0 + 1) h0)) (upd z (5 + 4 * r0 + 1) h0) pe2) (lkP false ((fun r s => colsW (upd z (5 + 4 * r0 + 1) h0) r s (-1))) (upd z (5 + 4 * r0 + 1) h0) cn2) (lkP false (rkN (upd z (5 + 4 * r0 + 1) h0)) (upd z (5 + 4 * r0 + 1) h0) rk2)))) : va_W) = _ := congrArg (fun yy : ZZ => ([(x 0, .inr (4, [.ref (v 0), .ref (b 0), .ref (o 0), .ref (h 0), .ref (t 0)]))] ++ (HW b cI z ++ (HW u cI (upd z (5 + 4 * cl (nI r0) + 1) h0) ++ (SW o (u 0) cI (bI true) yy (lkP false ((fun r s => colsW (upd z (5 + 4 * r0 + 1) h0) r s (-1))) (upd z (5 + 4 * r0 + 1) h0) cn2) (lkP false (rkN (upd z (5 + 4 * r0 + 1) h0)) (upd z (5 + 4 * r0 + 1) h0) rk2)))) : va_W)) ez_4
      have hP : va_P D vwCl ([(x 0, .inr (4, [.ref (v 0), .ref (b 0), .ref (o 0), .ref (h 0), .ref (t 0)]))] ++ (HW b cI z ++ (HW u cI (upd z (5 + 4 * cl (nI r0) + 1) h0) ++ (SW o (u 0) cI (bI true) (lkP false (people (upd z (5 + 4 * cl (nI r0) + 1) h0)) (upd z (5 + 4 * cl (nI r0) + 1) h0) pe2) (lkP false ((fun r s => colsW (upd z (5 + 4 * r0 + 1) h0) r s (-1))) (upd z (5 + 4 * r0 + 1) h0) cn2) (lkP false (rkN (upd z (5 + 4 * r0 + 1) h0)) (upd z (5 + 4 * r0 + 1) h0) rk2))))) _ := Eq.mp (congrArg (fun yy => va_P D vwCl yy _) ewez_4) hP
      have hD : va_D (kA w0) ([(x 0, .inr (4, [.ref (v 0), .ref (b 0), .ref (o 0), .ref (h 0), .ref (t 0)]))] ++ (HW b cI z ++ (HW u cI (upd z (5 + 4 * cl (nI r0) + 1) h0) ++ (SW o (u 0) cI (bI true) (lkP false (people (upd z (5 + 4 * cl (nI r0) + 1) h0)) (upd z (5 + 4 * cl (nI r0) + 1) h0) pe2) (lkP false ((fun r s => colsW (upd z (5 + 4 * r0 + 1) h0) r s (-1))) (upd z (5 + 4 * r0 + 1) h0) cn2) (lkP false (rkN (upd z (5 + 4 * r0 + 1) h0)) (upd z (5 + 4 * r0 + 1) h0) rk2))))) := Eq.mp (congrArg (fun yy => va_D (kA w0) yy) ewez_4) hD
      have ez_5 : ((lkP false ((fun r s => colsW (upd z (5 + 4 * r0 + 1) h0) r s (-1))) (upd z (5 + 4 * r0 + 1) h0) cn2) : ZZ) = (lkP false ((fun r s => colsW (upd z (5 + 4 * cl (nI r0) + 1) h0) r s (-1))) (upd z (5 + 4 * cl (nI r0) + 1) h0) cn2) := by rw [hc_r0]
      have ewez_5 : ([(x 0, .inr (4, [.ref (v 0), .ref (b 0), .ref (o 0), .ref (h 0), .ref (t 0)]))] ++ (HW b cI z ++ (HW u cI (upd z (5 + 4 * cl (nI r0) + 1) h0) ++ (SW o (u 0) cI (bI true) (lkP false (people (upd z (5 + 4 * cl (nI r0) + 1) h0)) (upd z (5 + 4 * cl (nI r0) + 1) h0) pe2) (lkP false ((fun r s => colsW (upd z (5 + 4 * r0 + 1) h0) r s (-1))) (upd z (5 + 4 * r0 + 1) h0) cn2) (lkP false (rkN (upd z (5 + 4 * r0 + 1) h0)) (upd z (5 + 4 * r0 + 1) h0) rk2)))) : va_W) = _ := congrArg (fun yy : ZZ => ([(x 0, .inr (4, [.ref (v 0), .ref (b 0), .ref (o 0), .ref (h 0), .ref (t 0)]))] ++ (HW b cI z ++ (HW u cI (upd z (5 + 4 * cl (nI r0) + 1) h0) ++ (SW o (u 0) cI (bI true) (lkP false (people (upd z (5 + 4 * cl (nI r0) + 1) h0)) (upd z (5 + 4 * cl (nI r0) + 1) h0) pe2) yy (lkP false (rkN (upd z (5 + 4 * r0 + 1) h0)) (upd z (5 + 4 * r0 + 1) h0) rk2)))) : va_W)) ez_5
      have hP : va_P D vwCl ([(x 0, .inr (4, [.ref (v 0), .ref (b 0), .ref (o 0), .ref (h 0), .ref (t 0)]))] ++ (HW b cI z ++ (HW u cI (upd z (5 + 4 * cl (nI r0) + 1) h0) ++ (SW o (u 0) cI (bI true) (lkP false (people (upd z (5 + 4 * cl (nI r0) + 1) h0)) (upd z (5 + 4 * cl (nI r0) + 1) h0) pe2) (lkP false ((fun r s => colsW (upd z (5 + 4 * cl (nI r0) + 1) h0) r s (-1))) (upd z (5 + 4 * cl (nI r0) + 1) h0) cn2) (lkP false (rkN (upd z (5 + 4 * r0 + 1) h0)) (upd z (5 + 4 * r0 + 1) h0) rk2))))) _ := Eq.mp (congrArg (fun yy => va_P D vwCl yy _) ewez_5) hP
      have hD : va_D (kA w0) ([(x 0, .inr (4, [.ref (v 0), .ref (b 0), .ref (o 0), .ref (h 0), .ref (t 0)]))] ++ (HW b cI z ++ (HW u cI (upd z (5 + 4 * cl (nI r0) + 1) h0) ++ (SW o (u 0) cI (bI true) (lkP false (people (upd z (5 + 4 * cl (nI r0) + 1) h0)) (upd z (5 + 4 * cl (nI r0) + 1) h0) pe2) (lkP false ((fun r s => colsW (upd z (5 + 4 * cl (nI r0) + 1) h0) r s (-1))) (upd z (5 + 4 * cl (nI r0) + 1) h0) cn2) (lkP false (rkN (upd z (5 + 4 * r0 + 1) h0)) (upd z (5 + 4 * r0 + 1) h0) rk2))))) := Eq.mp (congrArg (fun yy => va_D (kA w0) yy) ewez_5) hD
      have ez_6 : ((lkP false (rkN (upd z (5 + 4 * r0 + 1) h0)) (upd z (5 + 4 * r0 + 1) h0) rk2) : ZZ) = (lkP false (rkN (upd z (5 + 4 * cl (nI r0) + 1) h0)) (upd z (5 + 4 * cl (nI r0) + 1) h0) rk2) := by rw [hc_r0]
      have ewez_6 : ([(x 0, .inr (4, [.ref (v 0), .ref (b 0), .ref (o 0), .ref (h 0), .ref (t 0)]))] ++ (HW b cI z ++ (HW u cI (upd z (5 + 4 * cl (nI r0) + 1) h0) ++ (SW o (u 0) cI (bI true) (lkP false (people (upd z (5 + 4 * cl (nI r0) + 1) h0)) (upd z (5 + 4 * cl (nI r0) + 1) h0) pe2) (lkP false ((fun r s => colsW (upd z (5 + 4 * cl (nI r0) + 1) h0) r s (-1))) (upd z (5 + 4 * cl (nI r0) + 1) h0) cn2) (lkP false (rkN (upd z (5 + 4 * r0 + 1) h0)) (upd z (5 + 4 * r0 + 1) h0) rk2)))) : va_W) = _ := congrArg (fun yy : ZZ => ([(x 0, .inr (4, [.ref (v 0), .ref (b 0), .ref (o 0), .ref (h 0), .ref (t 0)]))] ++ (HW b cI z ++ (HW u cI (upd z (5 + 4 * cl (nI r0) + 1) h0) ++ (SW o (u 0) cI (bI true) (lkP false (people (upd z (5 + 4 * cl (nI r0) + 1) h0)) (upd z (5 + 4 * cl (nI r0) + 1) h0) pe2) (lkP false ((fun r s => colsW (upd z (5 + 4 * cl (nI r0) + 1) h0) r s (-1))) (upd z (5 + 4 * cl (nI r0) + 1) h0) cn2) yy))) : va_W)) ez_6
      have hP : va_P D vwCl ([(x 0, .inr (4, [.ref (v 0), .ref (b 0), .ref (o 0), .ref (h 0), .ref (t 0)]))] ++ (HW b cI z ++ (HW u cI (upd z (5 + 4 * cl (nI r0) + 1) h0) ++ (SW o (u 0) cI (bI true) (lkP false (people (upd z (5 + 4 * cl (nI r0) + 1) h0)) (upd z (5 + 4 * cl (nI r0) + 1) h0) pe2) (lkP false ((fun r s => colsW (upd z (5 + 4 * cl (nI r0) + 1) h0) r s (-1))) (upd z (5 + 4 * cl (nI r0) + 1) h0) cn2) (lkP false (rkN (upd z (5 + 4 * cl (nI r0) + 1) h0)) (upd z (5 + 4 * cl (nI r0) + 1) h0) rk2))))) _ := Eq.mp (congrArg (fun yy => va_P D vwCl yy _) ewez_6) hP
      have hD : va_D (kA w0) ([(x 0, .inr (4, [.ref (v 0), .ref (b 0), .ref (o 0), .ref (h 0), .ref (t 0)]))] ++ (HW b cI z ++ (HW u cI (upd z (5 + 4 * cl (nI r0) + 1) h0) ++ (SW o (u 0) cI (bI true) (lkP false (people (upd z (5 + 4 * cl (nI r0) + 1) h0)) (upd z (5 + 4 * cl (nI r0) + 1) h0) pe2) (lkP false ((fun r s => colsW (upd z (5 + 4 * cl (nI r0) + 1) h0) r s (-1))) (upd z (5 + 4 * cl (nI r0) + 1) h0) cn2) (lkP false (rkN (upd z (5 + 4 * cl (nI r0) + 1) h0)) (upd z (5 + 4 * cl (nI r0) + 1) h0) rk2))))) := Eq.mp (congrArg (fun yy => va_D (kA w0) yy) ewez_6) hD
      have hT9 : (tLift z (nI r0) h0 : Nat) = 0 := by first | rfl | omega | (simp [tLift, Int32.not_lt, Int32.not_le, hb2_0, hc_r0, (wt_t hb6_1).1, (wt_t hb6_1).2, hb6_1]; done) | (simp [tLift, Int32.not_lt, Int32.not_le, hb2_0, hc_r0, (wt_t hb6_1).1, (wt_t hb6_1).2, hb6_1]; omega) | (revert hb2_0 hc_r0 hb6_1; simp +contextual [tLift, Int32.not_lt, Int32.not_le]; done) | (revert hb2_0 hc_r0 hb6_1; simp +contextual [tLift, Int32.not_lt, Int32.not_le]; omega)
      subst hw0
      exact kX_iret hx hb hrt hlocks hT9 (congrArg nI e_2) hP hD hS ⟨Nat.le_of_ble_eq_true rfl, Nat.le_of_ble_eq_true rfl⟩ dX4_ifLifted_15
set_option maxRecDepth 20000 in
theorem iX4_ifTaken_4 : ∀ w ∈ wsX40, w ∈ wsX4_ifTaken := by decide +kernel
set_option maxHeartbeats 4000000 in
set_option maxRecDepth 100000 in
theorem c_X4_ifTaken (l : Launch) (hst : l.stackTraces = false) (D : va_G) (cI cC cH cL : ClassId) (y : Nat → Nat) (x b v u o h t : Nat → Nat) (z : ZZ) (lk : Bool) (pe cn rk : ZZ) (ro : Int32) (se : Int32) (hw : WF z) (hws : WS z) (hL0 : lk = true → LKR z pe cn rk) : vx_Met l yX4_ifTaken wsX4_ifTaken ({ frames := 8, cells := 2, slots := 12, locals := 125 }) (kwx y [.ref (x 0), .int ro, .int se] D ([(x 0, .inr (4, [.ref (v 0), .ref (b 0), .ref (o 0), .ref (h 0), .ref (t 0)]))] ++ (HW b cI z ++ (SW v (b 0) cI (bI lk) pe cn rk))) (kT cI cC cH cL)) (kqx D ([(x 0, .inr (4, [.ref (v 0), .ref (b 0), .ref (o 0), .ref (h 0), .ref (t 0)]))] ++ (HW b cI z ++ (SW v (b 0) cI (bI lk) pe cn rk))) (tSeat z ro se) ([(x 0, .inr (4, [.ref (v 0), .ref (b 0), .ref (o 0), .ref (h 0), .ref (t 0)]))] ++ (HW b cI z ++ (SW v (b 0) cI (bI true) (lkP lk (people z) z pe) (lkP lk ((fun r s => colsW z r s (-1))) z cn) (lkP lk (rkN z) z rk)))) (.returned (some (.int (nI (takThen z (cl ro) (cl se))))))) (kX D ([(x 0, .inr (4, [.ref (v 0), .ref (b 0), .ref (o 0), .ref (h 0), .ref (t 0)]))] ++ (HW b cI z ++ (SW v (b 0) cI (bI lk) pe cn rk))) "java/lang/IndexOutOfBoundsException" "java/lang/IndexOutOfBoundsException" (tSeat z ro se) ([(x 0, .inr (4, [.ref (v 0), .ref (b 0), .ref (o 0), .ref (h 0), .ref (t 0)]))] ++ (HW b cI z ++ (SW v (b 0) cI (bI lk) pe cn rk)))) 2 12 (kA ([(x 0, .inr (4, [.ref (v 0), .ref (b 0), .ref (o 0), .ref (h 0), .ref (t 0)]))] ++ (HW b cI z ++ (SW v (b 0) cI (bI lk) pe cn rk)))) := by
  refine vx_ofW (cc := cX4_ifTaken) (maxL := 3) (ret := (some .int)) (by decide) rfl ?_
  intro p e s m args below meth c s₁ B hml hxt hv
  obtain ⟨⟨rfl, hP, hK, hD0⟩, hX9, hF⟩ := hv
  have hx := B.exec
  have hb := B.bytes
  have hrt := B.returns
  have hts := atoms_spec (ws := wsX4_ifTaken) B.pre
  have hown : s.vm.findClass RX4 = some m.cls := findClass_of_methodNamed B.named
  have hlocks := B.notSynchronized
  have hl := lv_entry ([.ref (x 0), .int ro, .int se]) (n := 3) (Nat.le_of_ble_eq_true rfl)
  rw [lg_entry_eq]
  generalize (lg_sl ([.ref (x 0), .int ro, .int se]) ++ List.replicate (3 - (lg_sl ([.ref (x 0), .int ro, .int se])).length) Slot.unset).toArray = ls at hl ⊢
  have hl : lv_has ls 3 [(0, .ref (x 0)), (1, .int ro), (2, .int se)] := hl
  have hD := kA_self hD0
  obtain ⟨w0, hw0⟩ : ∃ w : va_W, w = [(x 0, .inr (4, [.ref (v 0), .ref (b 0), .ref (o 0), .ref (h 0), .ref (t 0)]))] ++ (HW b cI z ++ (SW v (b 0) cI (bI lk) pe cn rk)) := ⟨_, rfl⟩
  have hD : va_D (kA w0) ([(x 0, .inr (4, [.ref (v 0), .ref (b 0), .ref (o 0), .ref (h 0), .ref (t 0)]))] ++ (HW b cI z ++ (SW v (b 0) cI (bI lk) pe cn rk))) := by rw [hw0]; exact hD
  have hS : va_S (kA w0) s.heap s.heap [] := va_S.rf
  have hXx : hX y (kA w0) s s.heap := by rw [hw0]; exact hX9
  have hZ := hXx.1
  rw [show kA ([(x 0, .inr (4, [.ref (v 0), .ref (b 0), .ref (o 0), .ref (h 0), .ref (t 0)]))] ++ (HW b cI z ++ (SW v (b 0) cI (bI lk) pe cn rk))) = kA w0 from by rw [hw0], show kqx D ([(x 0, .inr (4, [.ref (v 0), .ref (b 0), .ref (o 0), .ref (h 0), .ref (t 0)]))] ++ (HW b cI z ++ (SW v (b 0) cI (bI lk) pe cn rk))) = kqx D w0 from by rw [hw0], show kX D ([(x 0, .inr (4, [.ref (v 0), .ref (b 0), .ref (o 0), .ref (h 0), .ref (t 0)]))] ++ (HW b cI z ++ (SW v (b 0) cI (bI lk) pe cn rk))) = kX D w0 from by rw [hw0]]
  have hP : va_P D vwCl ([(x 0, .inr (4, [.ref (v 0), .ref (b 0), .ref (o 0), .ref (h 0), .ref (t 0)]))] ++ (HW b cI z ++ (SW v (b 0) cI (bI lk) pe cn rk))) s.heap := hP
  have hR10 := wf_R10 hw
  have hC4 := wf_C4 hw
  have hLU := lkr_P hw (lk := lk) (pe := pe) (cn := cn) (rk := rk) hL0
  have hR1000 : nR z ≤ 1000 := by omega
  refine lv_aload_n hx hb dX4_ifTaken_0 rfl (lv_at hl 0 rfl) ?_
  refine lv_iload_n hx hb dX4_ifTaken_1 rfl (lv_at hl 1 rfl) ?_
  refine lv_iload_n hx hb dX4_ifTaken_2 rfl (lv_at hl 2 rfl) ?_
  refine kxV (As := [.int ro, .int se]) (rest := []) (C := RX4) (own := RX4) ⟨hx, hb, hml, hown, hts⟩ (c_X4_checkSeat l hst D cI cC cH cL y x b v u o h t z ro se (by first | assumption | omega)) (cwV 2 hts gX4_ifTaken_X4_checkSeat rfl rfl rfl k_X4_checkSeat ⟨Nat.le_of_ble_eq_true rfl, Nat.le_of_ble_eq_true rfl⟩) hP hD hK hS hXx hF [0, 1, 2, 3, 4, 5, 6, 7, 8, 9] [10, 11, 12, 13] rfl rfl (wr := (SW v (b 0) cI (bI lk) pe cn rk)) rfl (by decide) (by decide) (by decide) (va_recv (q := (RX4, TX4, 5)) hK hP (ci := 4) (q0 := 0) rfl rfl) rfl hl.1 rfl (Nat.le_of_ble_eq_true rfl) dX4_ifTaken_3 ⟨Nat.le_of_ble_eq_true rfl, Nat.le_of_ble_eq_true rfl⟩ (fun E9 ce9 q9 H locs hE hP hD hS hq1 hq2 hq3 => ?_) (fun H locs hT9 hP hD hS => ?_)
  · obtain ⟨hb3_0, rfl⟩ := xE_1 hE
    have hP : va_P D vwCl ([(x 0, .inr (4, [.ref (v 0), .ref (b 0), .ref (o 0), .ref (h 0), .ref (t 0)]))] ++ (HW b cI z ++ (SW v (b 0) cI (bI lk) pe cn rk))) H := hP.sub [4, 5, 6, 7, 8, 9, 10, 11, 12, 13, 0, 1, 2, 3] rfl
    have hD : va_D (kA w0) ([(x 0, .inr (4, [.ref (v 0), .ref (b 0), .ref (o 0), .ref (h 0), .ref (t 0)]))] ++ (HW b cI z ++ (SW v (b 0) cI (bI lk) pe cn rk))) := hD.sub [4, 5, 6, 7, 8, 9, 10, 11, 12, 13, 0, 1, 2, 3] (by decide) rfl
    have hT9 : (tSeat z ro se : Nat) = 1 := by first | rfl | omega | (simp [tSeat, Int32.not_lt, Int32.not_le, hb3_0]; done) | (simp [tSeat, Int32.not_lt, Int32.not_le, hb3_0]; omega) | (revert hb3_0; simp +contextual [tSeat, Int32.not_lt, Int32.not_le]; done) | (revert hb3_0; simp +contextual [tSeat, Int32.not_lt, Int32.not_le]; omega)
    subst hw0
    exact kxO hxt hlocks (Or.inl ⟨hT9, rfl⟩) hP hD hS hq1 hq2 hq3 (Nat.le_of_ble_eq_true rfl) (Nat.le_of_ble_eq_true rfl)
  · have hb3_0 := t0_t hT9
    have hP : va_P D vwCl ([(x 0, .inr (4, [.ref (v 0), .ref (b 0), .ref (o 0), .ref (h 0), .ref (t 0)]))] ++ (HW b cI z ++ (SW v (b 0) cI (bI lk) pe cn rk))) H := hP.sub [4, 5, 6, 7, 8, 9, 10, 11, 12, 13, 0, 1, 2, 3] rfl
    have hD : va_D (kA w0) ([(x 0, .inr (4, [.ref (v 0), .ref (b 0), .ref (o 0), .ref (h 0), .ref (t 0)]))] ++ (HW b cI z ++ (SW v (b 0) cI (bI lk) pe cn rk))) := hD.sub [4, 5, 6, 7, 8, 9, 10, 11, 12, 13, 0, 1, 2, 3] (by decide) rfl
    obtain ⟨r0, s0, hr0, hs0, rfl, rfl⟩ := isSeat_out hw hb3_0
    have hS0 := wf_S12 hw hr0
    have hc_r0 : cl (nI r0) = r0 := cl_nI (show r0 < 2 ^ 31 by omega)
    have hc_s0 : cl (nI s0) = s0 := cl_nI (show s0 < 2 ^ 31 by omega)
    refine lv_aload_n hx hb dX4_ifTaken_6 rfl (lv_at hl 0 rfl) ?_
    refine va_get (D := D) (ci := 4) (v := .ref (v 0)) (C := RX4) (T := TX4) (N := 5) hx hb hts iX4_ifTaken_4 hown hK hP 0 rfl rfl 0 (by decide) (hts (.fieldLink RX4 10 "HallSights" "survey" "LHallSights$Survey;") (List.mem_of_getElem? (i := 1) rfl)) (fun _ h9 => h9) rfl dX4_ifTaken_7 ?_
    refine kw_V (As := []) (rest := []) (C := RX3) (own := RX4) ⟨hx, hb, hml, hown, hts⟩ (c_X3_look l D cI cC cH cL v b z lk pe cn rk  (by first | assumption | omega) (by first | assumption | omega)) (cwV 0 hts gX4_ifTaken_X3_look rfl rfl rfl k_X3_look ⟨Nat.le_of_ble_eq_true rfl, Nat.le_of_ble_eq_true rfl⟩) hP hD hK hS [1, 2, 3, 4, 5, 6, 7, 8, 9, 10, 11, 12, 13] [0] rfl rfl (wr := ([(x 0, .inr (4, [.ref (v 0), .ref (b 0), .ref (o 0), .ref (h 0), .ref (t 0)]))])) rfl (by decide) (by decide) (by decide) (va_recv (q := (RX3, TX3, 5)) hK hP (ci := 3) (q0 := 10) rfl rfl) rfl hl.1 rfl (Nat.le_of_ble_eq_true rfl) dX4_ifTaken_10 ⟨Nat.le_of_ble_eq_true rfl, Nat.le_of_ble_eq_true rfl⟩ (fun H locs hP hD hS => ?_)
    have hP : va_P D vwCl ([(x 0, .inr (4, [.ref (v 0), .ref (b 0), .ref (o 0), .ref (h 0), .ref (t 0)]))] ++ (HW b cI z ++ (SW v (b 0) cI (bI true) (lkP lk (people z) z pe) (lkP lk ((fun r s => colsW z r s (-1))) z cn) (lkP lk (rkN z) z rk)))) H := hP.sub [0, 1, 2, 3, 4, 5, 6, 7, 8, 9, 10, 11, 12, 13] rfl
    have hD : va_D (kA w0) ([(x 0, .inr (4, [.ref (v 0), .ref (b 0), .ref (o 0), .ref (h 0), .ref (t 0)]))] ++ (HW b cI z ++ (SW v (b 0) cI (bI true) (lkP lk (people z) z pe) (lkP lk ((fun r s => colsW z r s (-1))) z cn) (lkP lk (rkN z) z rk)))) := hD.sub [0, 1, 2, 3, 4, 5, 6, 7, 8, 9, 10, 11, 12, 13] (by decide) rfl
    refine lv_aload_n hx hb dX4_ifTaken_13 rfl (lv_at hl 0 rfl) ?_
    refine va_get (D := D) (ci := 4) (v := .ref (v 0)) (C := RX4) (T := TX4) (N := 5) hx hb hts iX4_ifTaken_4 hown hK hP 0 rfl rfl 0 (by decide) (hts (.fieldLink RX4 10 "HallSights" "survey" "LHallSights$Survey;") (List.mem_of_getElem? (i := 1) rfl)) (fun _ h9 => h9) rfl dX4_ifTaken_14 ?_
    refine lv_iload_n hx hb dX4_ifTaken_17 rfl (lv_at hl 1 rfl) ?_
    refine lv_iload_n hx hb dX4_ifTaken_18 rfl (lv_at hl 2 rfl) ?_
    refine kr_V (As := [.int (nI r0), .int (nI s0)]) (rest := []) (C := RX3) (own := RX4) ⟨hx, hb, hml, hown, hts⟩ (c_X3_sightsLostTo l D cI cC cH cL v b z true (lkP lk (people z) z pe) (lkP lk ((fun r s => colsW z r s (-1))) z cn) (lkP lk (rkN z) z rk) r0 s0 (by first | assumption | omega) (by first | assumption | omega) (by first | assumption | omega) (by exact hLU)) (cwV 2 hts gX4_ifTaken_X3_sightsLostTo rfl rfl rfl k_X3_sightsLostTo ⟨Nat.le_of_ble_eq_true rfl, Nat.le_of_ble_eq_true rfl⟩) (hP.sub (ws' := (HW b cI z ++ SW v (b 0) cI (bI true) (lkP lk (people z) z pe) (lkP lk ((fun r s => colsW z r s (-1))) z cn) (lkP lk (rkN z) z rk))) [1, 2, 3, 4, 5, 6, 7, 8, 9, 10, 11, 12, 13] rfl) hK (va_recv (q := (RX3, TX3, 5)) hK hP (ci := 3) (q0 := 10) rfl rfl) rfl hl.1 rfl (Nat.le_of_ble_eq_true rfl) dX4_ifTaken_19 ⟨Nat.le_of_ble_eq_true rfl, Nat.le_of_ble_eq_true rfl⟩ ?_
    have e_1 : (takThen z r0 s0 : Nat) = (takThen z (cl (nI r0)) (cl (nI s0))) := by first | rfl | omega | (simp [tSeat, Int32.not_lt, Int32.not_le, hb3_0, hc_r0, hc_s0]; done) | (simp [tSeat, Int32.not_lt, Int32.not_le, hb3_0, hc_r0, hc_s0]; omega) | (revert hb3_0 hc_r0 hc_s0; simp +contextual [tSeat, Int32.not_lt, Int32.not_le]; done) | (revert hb3_0 hc_r0 hc_s0; simp +contextual [tSeat, Int32.not_lt, Int32.not_le]; omega)
    have hT9 : (tSeat z (nI r0) (nI s0) : Nat) = 0 := by first | rfl | omega | (simp [tSeat, Int32.not_lt, Int32.not_le, hb3_0, hc_r0, hc_s0]; done) | (simp [tSeat, Int32.not_lt, Int32.not_le, hb3_0, hc_r0, hc_s0]; omega) | (revert hb3_0 hc_r0 hc_s0; simp +contextual [tSeat, Int32.not_lt, Int32.not_le]; done) | (revert hb3_0 hc_r0 hc_s0; simp +contextual [tSeat, Int32.not_lt, Int32.not_le]; omega)
    subst hw0
    exact kX_iret hx hb hrt hlocks hT9 (congrArg nI e_1) hP hD hS ⟨Nat.le_of_ble_eq_true rfl, Nat.le_of_ble_eq_true rfl⟩ dX4_ifTaken_22
