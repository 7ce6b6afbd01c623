theorem k_X4_checkRow : yX4_checkRow.cls = RX4 ∧ yX4_checkRow.cls ≠ "java/lang/invoke/MethodHandle" ∧ yX4_checkRow.cls ≠ "java/lang/invoke/VarHandle" ∧ (parseMethodDescriptor yX4_checkRow.desc).map (fun d => d.parameters.length) = some 1 := by decide +kernel
theorem k_X4_checkRowS : yX4_checkRow.cls ≠ "java/lang/invoke/MethodHandle" ∧ yX4_checkRow.cls ≠ "java/lang/invoke/VarHandle" ∧ (parseMethodDescriptor yX4_checkRow.desc).map (fun d => d.parameters.length) = some 1 := k_X4_checkRow.2
set_option maxRecDepth 20000 in
theorem iX4_checkRow_0 : ∀ w ∈ wsX00, w ∈ wsX4_checkRow := by decide +kernel
set_option maxRecDepth 20000 in
theorem iX4_checkRow_4 : ∀ w ∈ wsX40, w ∈ wsX4_checkRow := by decide +kernel
set_option maxHeartbeats 4000000 in
set_option maxRecDepth 100000 in
theorem c_X4_checkRow (l : Launch) (hst : l.stackTraces = false) (D : va_G) (cI cC cH cL : ClassId) (y : Nat → Nat) (x b v u o h t : Nat → Nat) (z : ZZ) (ro : Int32) (hw : WF z) : vx_Met l yX4_checkRow wsX4_checkRow ({ frames := 6, cells := 1, slots := 6, locals := 82 }) (kwx y [.ref (x 0), .int ro] D ([(x 0, .inr (4, [.ref (v 0), .ref (b 0), .ref (o 0), .ref (h 0), .ref (t 0)]))] ++ (HW b cI z)) (kT cI cC cH cL)) (kqx D ([(x 0, .inr (4, [.ref (v 0), .ref (b 0), .ref (o 0), .ref (h 0), .ref (t 0)]))] ++ (HW b cI z)) (if isRowB z ro = true then 0 else 1) ([(x 0, .inr (4, [.ref (v 0), .ref (b 0), .ref (o 0), .ref (h 0), .ref (t 0)]))] ++ (HW b cI z)) (.returned none)) (kX D ([(x 0, .inr (4, [.ref (v 0), .ref (b 0), .ref (o 0), .ref (h 0), .ref (t 0)]))] ++ (HW b cI z)) "java/lang/IndexOutOfBoundsException" "java/lang/IndexOutOfBoundsException" (if isRowB z ro = true then 0 else 1) ([(x 0, .inr (4, [.ref (v 0), .ref (b 0), .ref (o 0), .ref (h 0), .ref (t 0)]))] ++ (HW b cI z))) 1 6 (kA ([(x 0, .inr (4, [.ref (v 0), .ref (b 0), .ref (o 0), .ref (h 0), .ref (t 0)]))] ++ (HW b cI z))) := by
  refine vx_ofW (cc := cX4_checkRow) (maxL := 2) (ret := none) (by decide) rfl ?_
  intro p e s m args below meth c s₁ B hml hxt hv
  obtain ⟨⟨rfl, hP, hK, hD0⟩, hX9, hF⟩ := hv
  have hx := B.exec
  have hb := B.bytes
  have hrt := B.returns
  have hts := atoms_spec (ws := wsX4_checkRow) B.pre
  have hown : s.vm.findClass RX4 = some m.cls := findClass_of_methodNamed B.named
  have hlocks := B.notSynchronized
  have hl := lv_entry ([.ref (x 0), .int ro]) (n := 2) (Nat.le_of_ble_eq_true rfl)
  rw [lg_entry_eq]
  generalize (lg_sl ([.ref (x 0), .int ro]) ++ List.replicate (2 - (lg_sl ([.ref (x 0), .int ro])).length) Slot.unset).toArray = ls at hl ⊢
  have hl : lv_has ls 2 [(0, .ref (x 0)), (1, .int ro)] := hl
  have hD := kA_self hD0
  obtain ⟨w0, hw0⟩ : ∃ w : va_W, w = [(x 0, .inr (4, [.ref (v 0), .ref (b 0), .ref (o 0), .ref (h 0), .ref (t 0)]))] ++ (HW b cI z) := ⟨_, rfl⟩
  have hD : va_D (kA w0) ([(x 0, .inr (4, [.ref (v 0), .ref (b 0), .ref (o 0), .ref (h 0), .ref (t 0)]))] ++ (HW b cI z)) := by rw [hw0]; exact hD
  have hS : va_S (kA w0) s.heap s.heap [] := va_S.rf
  have hXx : hX y (kA w0) s s.heap := by rw [hw0]; exact hX9
  have hZ := hXx.1
  rw [show kA ([(x 0, .inr (4, [.ref (v 0), .ref (b 0), .ref (o 0), .ref (h 0), .ref (t 0)]))] ++ (HW b cI z)) = kA w0 from by rw [hw0], show kqx D ([(x 0, .inr (4, [.ref (v 0), .ref (b 0), .ref (o 0), .ref (h 0), .ref (t 0)]))] ++ (HW b cI z)) = kqx D w0 from by rw [hw0], show kX D ([(x 0, .inr (4, [.ref (v 0), .ref (b 0), .ref (o 0), .ref (h 0), .ref (t 0)]))] ++ (HW b cI z)) = kX D w0 from by rw [hw0]]
  have hP : va_P D vwCl ([(x 0, .inr (4, [.ref (v 0), .ref (b 0), .ref (o 0), .ref (h 0), .ref (t 0)]))] ++ (HW b cI z)) s.heap := hP
  have hR10 := wf_R10 hw
  have hC4 := wf_C4 hw
  have hR1000 : nR z ≤ 1000 := by omega
  have hC1000 : nC z ≤ 1000 := by omega
  refine lv_iload_n hx hb dX4_checkRow_0 rfl (lv_at hl 1 rfl) ?_
  refine lv_if_lt (tgt := 15) hx hb dX4_checkRow_1 (by decide) (fun c_1_0 => ?_) (fun c_1_1 => ?_)
  · have c_1_0 : (ro : Int32) < 0 := c_1_0
    have hT9 : (if isRowB z ro = true then 0 else 1 : Nat) = 1 := by first | rfl | omega | (simp [isRowB, wthn0 hR1000, Int32.not_lt, Int32.not_le, c_1_0, Int32.not_le.mpr c_1_0]; done) | (simp [isRowB, wthn0 hR1000, Int32.not_lt, Int32.not_le, c_1_0, Int32.not_le.mpr c_1_0]; omega) | (revert c_1_0; simp +contextual [isRowB, wthn0 hR1000, Int32.not_lt, Int32.not_le]; done) | (revert c_1_0; simp +contextual [isRowB, wthn0 hR1000, Int32.not_lt, Int32.not_le]; omega)
    subst hw0
    exact kxTW (text := "there is no such row") hx hb hst hown xf_IO (hts (.classLink RX4 263 "java/lang/IndexOutOfBoundsException") (List.mem_of_getElem? (i := 1) rfl)) (hts (.initialized "java/lang/IndexOutOfBoundsException") (List.mem_of_getElem? (i := 2) rfl)) hF (List.mem_of_getElem? (i := 16) rfl) (xat hF xb_IO (fun w h => hts w (List.mem_cons_of_mem _ (List.mem_append_right _ h)))) xg_IO hXx (hl.1.trans hml.symm) dX4_checkRow_15 dX4_checkRow_18 dX4_checkRow_19 dX4_checkRow_22 dX4_checkRow_25 hxt ⟨Nat.le_of_ble_eq_true rfl, Nat.le_of_ble_eq_true rfl, Nat.le_of_ble_eq_true rfl, Nat.le_of_ble_eq_true rfl⟩ hlocks (Or.inl ⟨hT9, rfl⟩) hP hD hS ⟨Nat.le_of_ble_eq_true rfl, Nat.le_of_ble_eq_true rfl⟩
  · have c_1_1 : ¬ (ro : Int32) < 0 := c_1_1
    refine lv_iload_n hx hb dX4_checkRow_4 rfl (lv_at hl 1 rfl) ?_
    refine lv_aload_n hx hb dX4_checkRow_5 rfl (lv_at hl 0 rfl) ?_
    refine va_get (D := D) (ci := 4) (v := .ref (b 0)) (C := RX4) (T := TX4) (N := 5) hx hb hts iX4_checkRow_4 hown hK hP 0 rfl rfl 1 (by decide) (hts (.fieldLink RX4 20 "HallSights" "hall" "LHallSights$Hall;") (List.mem_of_getElem? (i := 3) rfl)) (fun _ h9 => h9) rfl dX4_checkRow_6 ?_
    refine va_get (D := D) (ci := 0) (v := .int (z 3)) (C := RX0) (T := TX0) (N := 10) hx hb hts iX4_checkRow_0 hown hK hP 1 rfl rfl 0 (by decide) (hts (.fieldLink RX4 156 "HallSights$Hall" "rows" "I") (List.mem_of_getElem? (i := 4) rfl)) (fun _ h9 => h9) rfl dX4_checkRow_9 ?_
    refine kx_top (wf_R hw) ?_
    refine lv_icmp_lt (tgt := 26) hx hb dX4_checkRow_12 (by decide) (fun c_12_2 => ?_) (fun c_12_3 => ?_)
    · have c_12_2 : (ro : Int32) < (nI (nR z)) := c_12_2
      have hT9 : (if isRowB z ro = true then 0 else 1 : Nat) = 0 := by first | rfl | omega | (simp [isRowB, wthn0 hR1000, Int32.not_lt, Int32.not_le, c_1_1, Int32.not_lt.mp c_1_1, c_12_2, Int32.not_le.mpr c_12_2]; done) | (simp [isRowB, wthn0 hR1000, Int32.not_lt, Int32.not_le, c_1_1, Int32.not_lt.mp c_1_1, c_12_2, Int32.not_le.mpr c_12_2]; omega) | (revert c_1_1 c_12_2; simp +contextual [isRowB, wthn0 hR1000, Int32.not_lt, Int32.not_le]; done) | (revert c_1_1 c_12_2; simp +contextual [isRowB, wthn0 hR1000, Int32.not_lt, Int32.not_le]; omega)
      subst hw0
      exact kX_vret hx hb hrt hlocks hT9 hP hD hS ⟨Nat.le_of_ble_eq_true rfl, Nat.le_of_ble_eq_true rfl⟩ dX4_checkRow_26
    · have c_12_3 : ¬ (ro : Int32) < (nI (nR z)) := c_12_3
      have hT9 : (if isRowB z ro = true then 0 else 1 : Nat) = 1 := by first | rfl | omega | (simp [isRowB, wthn0 hR1000, Int32.not_lt, Int32.not_le, c_1_1, Int32.not_lt.mp c_1_1, c_12_3, Int32.not_lt.mp c_12_3]; done) | (simp [isRowB, wthn0 hR1000, Int32.not_lt, Int32.not_le, c_1_1, Int32.not_lt.mp c_1_1, c_12_3, Int32.not_lt.mp c_12_3]; omega) | (revert c_1_1 c_12_3; simp +contextual [isRowB, wthn0 hR1000, Int32.not_lt, Int32.not_le]; done) | (revert c_1_1 c_12_3; simp +contextual [isRowB, wthn0 hR1000, Int32.not_lt, Int32.not_le]; omega)
      subst hw0
      exact kxTW (text := "there is no such row") hx hb hst hown xf_IO (hts (.classLink RX4 263 "java/lang/IndexOutOfBoundsException") (List.mem_of_getElem? (i := 1) rfl)) (hts (.initialized "java/lang/IndexOutOfBoundsException") (List.mem_of_getElem? (i := 2) rfl)) hF (List.mem_of_getElem? (i := 16) rfl) (xat hF xb_IO (fun w h => hts w (List.mem_cons_of_mem _ (List.mem_append_right _ h)))) xg_IO hXx (hl.1.trans hml.symm) dX4_checkRow_15 dX4_checkRow_18 dX4_checkRow_19 dX4_checkRow_22 dX4_checkRow_25 hxt ⟨Nat.le_of_ble_eq_true rfl, Nat.le_of_ble_eq_true rfl, Nat.le_of_ble_eq_true rfl, Nat.le_of_ble_eq_true rfl⟩ hlocks (Or.inl ⟨hT9, rfl⟩) hP hD hS ⟨Nat.le_of_ble_eq_true rfl, Nat.le_of_ble_eq_true rfl⟩
set_option maxRecDepth 20000 in
theorem iX4_checkColumn_0 : ∀ w ∈ wsX00, w ∈ wsX4_checkColumn := by decide +kernel
set_option maxRecDepth 20000 in
theorem iX4_checkColumn_4 : ∀ w ∈ wsX40, w ∈ wsX4_checkColumn := by decide +kernel
set_option maxHeartbeats 4000000 in
set_option maxRecDepth 100000 in
theorem c_X4_checkColumn (l : Launch) (hst : l.stackTraces = false) (D : va_G) (cI cC cH cL : ClassId) (y : Nat → Nat) (x b v u o h t : Nat → Nat) (z : ZZ) (co : Int32) (hw : WF z) : vx_Met l yX4_checkColumn wsX4_checkColumn ({ frames := 6, cells := 1, slots := 6, locals := 82 }) (kwx y [.ref (x 0), .int co] D ([(x 0, .inr (4, [.ref (v 0), .ref (b 0), .ref (o 0), .ref (h 0), .ref (t 0)]))] ++ (HW b cI z)) (kT cI cC cH cL)) (kqx D ([(x 0, .inr (4, [.ref (v 0), .ref (b 0), .ref (o 0), .ref (h 0), .ref (t 0)]))] ++ (HW b cI z)) (if isColB z co = true then 0 else 1) ([(x 0, .inr (4, [.ref (v 0), .ref (b 0), .ref (o 0), .ref (h 0), .ref (t 0)]))] ++ (HW b cI z)) (.returned none)) (kX D ([(x 0, .inr (4, [.ref (v 0), .ref (b 0), .ref (o 0), .ref (h 0), .ref (t 0)]))] ++ (HW b cI z)) "java/lang/IndexOutOfBoundsException" "java/lang/IndexOutOfBoundsException" (if isColB z co = true then 0 else 1) ([(x 0, .inr (4, [.ref (v 0), .ref (b 0), .ref (o 0), .ref (h 0), .ref (t 0)]))] ++ (HW b cI z))) 1 6 (kA ([(x 0, .inr (4, [.ref (v 0), .ref (b 0), .ref (o 0), .ref (h 0), .ref (t 0)]))] ++ (HW b cI z))) := by
  refine vx_ofW (cc := cX4_checkColumn) (maxL := 2) (ret := none) (by decide) rfl ?_
  intro p e s m args below meth c s₁ B hml hxt hv
  obtain ⟨⟨rfl, hP, hK, hD0⟩, hX9, hF⟩ := hv
  have hx := B.exec
  have hb := B.bytes
  have hrt := B.returns
  have hts := atoms_spec (ws := wsX4_checkColumn) B.pre
  have hown : s.vm.findClass RX4 = some m.cls := findClass_of_methodNamed B.named
  have hlocks := B.notSynchronized
  have hl := lv_entry ([.ref (x 0), .int co]) (n := 2) (Nat.le_of_ble_eq_true rfl)
  rw [lg_entry_eq]
  generalize (lg_sl ([.ref (x 0), .int co]) ++ List.replicate (2 - (lg_sl ([.ref (x 0), .int co])).length) Slot.unset).toArray = ls at hl ⊢
  have hl : lv_has ls 2 [(0, .ref (x 0)), (1, .int co)] := hl
  have hD := kA_self hD0
  obtain ⟨w0, hw0⟩ : ∃ w : va_W, w = [(x 0, .inr (4, [.ref (v 0), .ref (b 0), .ref (o 0), .ref (h 0), .ref (t 0)]))] ++ (HW b cI z) := ⟨_, rfl⟩
  have hD : va_D (kA w0) ([(x 0, .inr (4, [.ref (v 0), .ref (b 0), .ref (o 0), .ref (h 0), .ref (t 0)]))] ++ (HW b cI z)) := by rw [hw0]; exact hD
  have hS : va_S (kA w0) s.heap s.heap [] := va_S.rf
  have hXx : hX y (kA w0) s s.heap := by rw [hw0]; exact hX9
  have hZ := hXx.1
  rw [show kA ([(x 0, .inr (4, [.ref (v 0), .ref (b 0), .ref (o 0), .ref (h 0), .ref (t 0)]))] ++ (HW b cI z)) = kA w0 from by rw [hw0], show kqx D ([(x 0, .inr (4, [.ref (v 0), .ref (b 0), .ref (o 0), .ref (h 0), .ref (t 0)]))] ++ (HW b cI z)) = kqx D w0 from by rw [hw0], show kX D ([(x 0, .inr (4, [.ref (v 0), .ref (b 0), .ref (o 0), .ref (h 0), .ref (t 0)]))] ++ (HW b cI z)) = kX D w0 from by rw [hw0]]
  have hP : va_P D vwCl ([(x 0, .inr (4, [.ref (v 0), .ref (b 0), .ref (o 0), .ref (h 0), .ref (t 0)]))] ++ (HW b cI z)) s.heap := hP
  have hR10 := wf_R10 hw
  have hC4 := wf_C4 hw
  have hR1000 : nR z ≤ 1000 := by omega
  have hC1000 : nC z ≤ 1000 := by omega
  refine lv_iload_n hx hb dX4_checkColumn_0 rfl (lv_at hl 1 rfl) ?_
  refine lv_if_lt (tgt := 15) hx hb dX4_checkColumn_1 (by decide) (fun c_1_0 => ?_) (fun c_1_1 => ?_)
  · have c_1_0 : (co : Int32) < 0 := c_1_0
    have hT9 : (if isColB z co = true then 0 else 1 : Nat) = 1 := by first | rfl | omega | (simp [isColB, wthn0 hC1000, Int32.not_lt, Int32.not_le, c_1_0, Int32.not_le.mpr c_1_0]; done) | (simp [isColB, wthn0 hC1000, Int32.not_lt, Int32.not_le, c_1_0, Int32.not_le.mpr c_1_0]; omega) | (revert c_1_0; simp +contextual [isColB, wthn0 hC1000, Int32.not_lt, Int32.not_le]; done) | (revert c_1_0; simp +contextual [isColB, wthn0 hC1000, Int32.not_lt, Int32.not_le]; omega)
    subst hw0
    exact kxTW (text := "there is no such column") hx hb hst hown xf_IO (hts (.classLink RX4 263 "java/lang/IndexOutOfBoundsException") (List.mem_of_getElem? (i := 1) rfl)) (hts (.initialized "java/lang/IndexOutOfBoundsException") (List.mem_of_getElem? (i := 2) rfl)) hF (List.mem_of_getElem? (i := 18) rfl) (xat hF xb_IO (fun w h => hts w (List.mem_cons_of_mem _ (List.mem_append_right _ h)))) xg_IO hXx (hl.1.trans hml.symm) dX4_checkColumn_15 dX4_checkColumn_18 dX4_checkColumn_19 dX4_checkColumn_22 dX4_checkColumn_25 hxt ⟨Nat.le_of_ble_eq_true rfl, Nat.le_of_ble_eq_true rfl, Nat.le_of_ble_eq_true rfl, Nat.le_of_ble_eq_true rfl⟩ hlocks (Or.inl ⟨hT9, rfl⟩) hP hD hS ⟨Nat.le_of_ble_eq_true rfl, Nat.le_of_ble_eq_true rfl⟩
  · have c_1_1 : ¬ (co : Int32) < 0 := c_1_1
    refine lv_iload_n hx hb dX4_checkColumn_4 rfl (lv_at hl 1 rfl) ?_
    refine lv_aload_n hx hb dX4_checkColumn_5 rfl (lv_at hl 0 rfl) ?_
    refine va_get (D := D) (ci := 4) (v := .ref (b 0)) (C := RX4) (T := TX4) (N := 5) hx hb hts iX4_checkColumn_4 hown hK hP 0 rfl rfl 1 (by decide) (hts (.fieldLink RX4 20 "HallSights" "hall" "LHallSights$Hall;") (List.mem_of_getElem? (i := 3) rfl)) (fun _ h9 => h9) rfl dX4_checkColumn_6 ?_
    refine va_get (D := D) (ci := 0) (v := .int (z 4)) (C := RX0) (T := TX0) (N := 10) hx hb hts iX4_checkColumn_0 hown hK hP 1 rfl rfl 5 (by decide) (hts (.fieldLink RX4 87 "HallSights$Hall" "columns" "I") (List.mem_of_getElem? (i := 4) rfl)) (fun _ h9 => h9) rfl dX4_checkColumn_9 ?_
    refine kx_top (wf_C hw) ?_
    refine lv_icmp_lt (tgt := 26) hx hb dX4_checkColumn_12 (by decide) (fun c_12_2 => ?_) (fun c_12_3 => ?_)
    · have c_12_2 : (co : Int32) < (nI (nC z)) := c_12_2
      have hT9 : (if isColB z co = true then 0 else 1 : Nat) = 0 := by first | rfl | omega | (simp [isColB, wthn0 hC1000, Int32.not_lt, Int32.not_le, c_1_1, Int32.not_lt.mp c_1_1, c_12_2, Int32.not_le.mpr c_12_2]; done) | (simp [isColB, wthn0 hC1000, Int32.not_lt, Int32.not_le, c_1_1, Int32.not_lt.mp c_1_1, c_12_2, Int32.not_le.mpr c_12_2]; omega) | (revert c_1_1 c_12_2; simp +contextual [isColB, wthn0 hC1000, Int32.not_lt, Int32.not_le]; done) | (revert c_1_1 c_12_2; simp +contextual [isColB, wthn0 hC1000, Int32.not_lt, Int32.not_le]; omega)
      subst hw0
      exact kX_vret hx hb hrt hlocks hT9 hP hD hS ⟨Nat.le_of_ble_eq_true rfl, Nat.le_of_ble_eq_true rfl⟩ dX4_checkColumn_26
    · have c_12_3 : ¬ (co : Int32) < (nI (nC z)) := c_12_3
      have hT9 : (if isColB z co = true then 0 else 1 : Nat) = 1 := by first | rfl | omega | (simp [isColB, wthn0 hC1000, Int32.not_lt, Int32.not_le, c_1_1, Int32.not_lt.mp c_1_1, c_12_3, Int32.not_lt.mp c_12_3]; done) | (simp [isColB, wthn0 hC1000, Int32.not_lt, Int32.not_le, c_1_1, Int32.not_lt.mp c_1_1, c_12_3, Int32.not_lt.mp c_12_3]; omega) | (revert c_1_1 c_12_3; simp +contextual [isColB, wthn0 hC1000, Int32.not_lt, Int32.not_le]; done) | (revert c_1_1 c_12_3; simp +contextual [isColB, wthn0 hC1000, Int32.not_lt, Int32.not_le]; omega)
      subst hw0
      exact kxTW (text := "there is no such column") hx hb hst hown xf_IO (hts (.classLink RX4 263 "java/lang/IndexOutOfBoundsException") (List.mem_of_getElem? (i := 1) rfl)) (hts (.initialized "java/lang/IndexOutOfBoundsException") (List.mem_of_getElem? (i := 2) rfl)) hF (List.mem_of_getElem? (i := 18) rfl) (xat hF xb_IO (fun w h => hts w (List.mem_cons_of_mem _ (List.mem_append_right _ h)))) xg_IO hXx (hl.1.trans hml.symm) dX4_checkColumn_15 dX4_checkColumn_18 dX4_checkColumn_19 dX4_checkColumn_22 dX4_checkColumn_25 hxt ⟨Nat.le_of_ble_eq_true rfl, Nat.le_of_ble_eq_true rfl, Nat.le_of_ble_eq_true rfl, Nat.le_of_ble_eq_true rfl⟩ hlocks (Or.inl ⟨hT9, rfl⟩) hP hD hS ⟨Nat.le_of_ble_eq_true rfl, Nat.le_of_ble_eq_true rfl⟩
set_option maxRecDepth 20000 in
theorem iX4_checkSeat_0 : ∀ w ∈ wsX00, w ∈ wsX4_checkSeat := by decide +kernel
set_option maxRecDepth 20000 in
theorem iX4_checkSeat_4 : ∀ w ∈ wsX40, w ∈ wsX4_checkSeat := by decide +kernel
set_option maxHeartbeats 4000000 in
set_option maxRecDepth 100000 in
theorem c_X4_checkSeat (l : Launch) (hst : l.stackTraces = false) (D : va_G) (cI cC cH cL : ClassId) (y : Nat → Nat) (x b v u o h t : Nat → Nat) (z : ZZ) (ro : Int32) (se : Int32) (hw : WF z) : vx_Met l yX4_checkSeat wsX4_checkSeat ({ frames := 7, cells := 2, slots := 12, locals := 103 }) (kwx y [.ref (x 0), .int ro, .int se] D ([(x 0, .inr (4, [.ref (v 0), .ref (b 0), .ref (o 0), .ref (h 0), .ref (t 0)]))] ++ (HW b cI z)) (kT cI cC cH cL)) (kqx D ([(x 0, .inr (4, [.ref (v 0), .ref (b 0), .ref (o 0), .ref (h 0), .ref (t 0)]))] ++ (HW b cI z)) (if isSeatB z ro se = true then 0 else 1) ([(x 0, .inr (4, [.ref (v 0), .ref (b 0), .ref (o 0), .ref (h 0), .ref (t 0)]))] ++ (HW b cI z)) (.returned none)) (kX D ([(x 0, .inr (4, [.ref (v 0), .ref (b 0), .ref (o 0), .ref (h 0), .ref (t 0)]))] ++ (HW b cI z)) "java/lang/IndexOutOfBoundsException" "java/lang/IndexOutOfBoundsException" (if isSeatB z ro se = true then 0 else 1) ([(x 0, .inr (4, [.ref (v 0), .ref (b 0), .ref (o 0), .ref (h 0), .ref (t 0)]))] ++ (HW b cI z))) 2 12 (kA ([(x 0, .inr (4, [.ref (v 0), .ref (b 0), .ref (o 0), .ref (h 0), .ref (t 0)]))] ++ (HW b cI z))) := by
  refine vx_ofW (cc := cX4_checkSeat) (maxL := 3) (ret := none) (by decide) rfl ?_
  intro p e s m args below meth c s₁ B hml hxt hv
  obtain ⟨⟨rfl, hP, hK, hD0⟩, hX9, hF⟩ := hv
  have hx := B.exec
  have hb := B.bytes
  have hrt := B.returns
  have hts := atoms_spec (ws := wsX4_checkSeat) B.pre
  have hown : s.vm.findClass RX4 = some m.cls := findClass_of_methodNamed B.named
  have hlocks := B.notSynchronized
  have hl := lv_entry ([.ref (x 0), .int ro, .int se]) (n := 3) (Nat.le_of_ble_eq_true rfl)
  rw [lg_entry_eq]
  generalize (lg_sl ([.ref (x 0), .int ro, .int se]) ++ List.replicate (3 - (lg_sl ([.ref (x 0), .int ro, .int se])).length) Slot.unset).toArray = ls at hl ⊢
  have hl : lv_has ls 3 [(0, .ref (x 0)), (1, .int ro), (2, .int se)] := hl
  have hD := kA_self hD0
  obtain ⟨w0, hw0⟩ : ∃ w : va_W, w = [(x 0, .inr (4, [.ref (v 0), .ref (b 0), .ref (o 0), .ref (h 0), .ref (t 0)]))] ++ (HW b cI z) := ⟨_, rfl⟩
  have hD : va_D (kA w0) ([(x 0, .inr (4, [.ref (v 0), .ref (b 0), .ref (o 0), .ref (h 0), .ref (t 0)]))] ++ (HW b cI z)) := by rw [hw0]; exact hD
  have hS : va_S (kA w0) s.heap s.heap [] := va_S.rf
  have hXx : hX y (kA w0) s s.heap := by rw [hw0]; exact hX9
  have hZ := hXx.1
  rw [show kA ([(x 0, .inr (4, [.ref (v 0), .ref (b 0), .ref (o 0), .ref (h 0), .ref (t 0)]))] ++ (HW b cI z)) = kA w0 from by rw [hw0], show kqx D ([(x 0, .inr (4, [.ref (v 0), .ref (b 0), .ref (o 0), .ref (h 0), .ref (t 0)]))] ++ (HW b cI z)) = kqx D w0 from by rw [hw0], show kX D ([(x 0, .inr (4, [.ref (v 0), .ref (b 0), .ref (o 0), .ref (h 0), .ref (t 0)]))] ++ (HW b cI z)) = kX D w0 from by rw [hw0]]
  have hP : va_P D vwCl ([(x 0, .inr (4, [.ref (v 0), .ref (b 0), .ref (o 0), .ref (h 0), .ref (t 0)]))] ++ (HW b cI z)) s.heap := hP
  have hR10 := wf_R10 hw
  have hC4 := wf_C4 hw
  have hR1000 : nR z ≤ 1000 := by omega
  have hC1000 : nC z ≤ 1000 := by omega
  refine lv_aload_n hx hb dX4_checkSeat_0 rfl (lv_at hl 0 rfl) ?_
  refine lv_iload_n hx hb dX4_checkSeat_1 rfl (lv_at hl 1 rfl) ?_
  refine kxV (As := [.int ro]) (rest := []) (C := RX4) (own := RX4) ⟨hx, hb, hml, hown, hts⟩ (c_X4_checkRow l hst D cI cC cH cL y x b v u o h t z ro (by first | assumption | omega)) (cwV 1 hts gX4_checkSeat_X4_checkRow rfl rfl rfl k_X4_checkRow ⟨Nat.le_of_ble_eq_true rfl, Nat.le_of_ble_eq_true rfl⟩) hP hD hK hS hXx hF [0, 1, 2, 3, 4, 5, 6, 7, 8, 9] [] rfl rfl (wr := []) rfl (by decide) (by decide) (by decide) (va_recv (q := (RX4, TX4, 5)) hK hP (ci := 4) (q0 := 0) rfl rfl) rfl hl.1 rfl (Nat.le_of_ble_eq_true rfl) dX4_checkSeat_2 ⟨Nat.le_of_ble_eq_true rfl, Nat.le_of_ble_eq_true rfl⟩ (fun E9 ce9 q9 H locs hE hP hD hS hq1 hq2 hq3 => ?_) (fun H locs hT9 hP hD hS => ?_)
  · obtain ⟨hb2_0, rfl⟩ := xE_1 hE
    have hP : va_P D vwCl ([(x 0, .inr (4, [.ref (v 0), .ref (b 0), .ref (o 0), .ref (h 0), .ref (t 0)]))] ++ (HW b cI z)) H := hP
    have hD : va_D (kA w0) ([(x 0, .inr (4, [.ref (v 0), .ref (b 0), .ref (o 0), .ref (h 0), .ref (t 0)]))] ++ (HW b cI z)) := hD
    have hT9 : (if isSeatB z ro se = true then 0 else 1 : Nat) = 1 := by simp [isSeatB, hb2_0]
    subst hw0
    exact kxO hxt hlocks (Or.inl ⟨hT9, rfl⟩) hP hD hS hq1 hq2 hq3 (Nat.le_of_ble_eq_true rfl) (Nat.le_of_ble_eq_true rfl)
  · have hb2_0 := t0_t hT9
    have hP : va_P D vwCl ([(x 0, .inr (4, [.ref (v 0), .ref (b 0), .ref (o 0), .ref (h 0), .ref (t 0)]))] ++ (HW b cI z)) H := hP
    have hD : va_D (kA w0) ([(x 0, .inr (4, [.ref (v 0), .ref (b 0), .ref (o 0), .ref (h 0), .ref (t 0)]))] ++ (HW b cI z)) := hD
    obtain ⟨r0, hr0, rfl⟩ := isRow_out hw hb2_0
    have hc_r0 : cl (nI r0) = r0 := cl_nI (show r0 < 2 ^ 31 by omega)
    have hS0 := wf_S12 hw hr0
    refine lv_iload_n hx hb dX4_checkSeat_5 rfl (lv_at hl 2 rfl) ?_
    refine lv_if_lt (tgt := 22) hx hb dX4_checkSeat_6 (by decide) (fun c_6_1 => ?_) (fun c_6_2 => ?_)
    · have c_6_1 : (se : Int32) < 0 := c_6_1
      have hT9 : (if isSeatB z (nI r0) se = true then 0 else 1 : Nat) = 1 := by first | (simp [isSeatB, hb2_0, hc_r0, c_6_1, Int32.not_le.mpr c_6_1]; done) | (simp [isSeatB, nI_clamp (show r0 < 2 ^ 31 by omega), wthn0 (show nS z r0 ≤ 1000 by omega), hb2_0, hc_r0, c_6_1, Int32.not_le.mpr c_6_1]; done)
      subst hw0
      exact kxTW (text := "there is no such seat") hx hb hst hown xf_IO (hts (.classLink RX4 263 "java/lang/IndexOutOfBoundsException") (List.mem_of_getElem? (i := 1) rfl)) (hts (.initialized "java/lang/IndexOutOfBoundsException") (List.mem_of_getElem? (i := 2) rfl)) hF (List.mem_of_getElem? (i := 17) rfl) (xat hF xb_IO (fun w h => hts w (List.mem_cons_of_mem _ (List.mem_append_right _ h)))) xg_IO hXx (hl.1.trans hml.symm) dX4_checkSeat_22 dX4_checkSeat_25 dX4_checkSeat_26 dX4_checkSeat_29 dX4_checkSeat_32 hxt ⟨Nat.le_of_ble_eq_true rfl, Nat.le_of_ble_eq_true rfl, Nat.le_of_ble_eq_true rfl, Nat.le_of_ble_eq_true rfl⟩ hlocks (Or.inl ⟨hT9, rfl⟩) hP hD hS ⟨Nat.le_of_ble_eq_true rfl, Nat.le_of_ble_eq_true rfl⟩
    · have c_6_2 : ¬ (se : Int32) < 0 := c_6_2
      refine lv_iload_n hx hb dX4_checkSeat_9 rfl (lv_at hl 2 rfl) ?_
      refine lv_aload_n hx hb dX4_checkSeat_10 rfl (lv_at hl 0 rfl) ?_
      refine va_get (D := D) (ci := 4) (v := .ref (b 0)) (C := RX4) (T := TX4) (N := 5) hx hb hts iX4_checkSeat_4 hown hK hP 0 rfl rfl 1 (by decide) (hts (.fieldLink RX4 20 "HallSights" "hall" "LHallSights$Hall;") (List.mem_of_getElem? (i := 3) rfl)) (fun _ h9 => h9) rfl dX4_checkSeat_11 ?_
      refine va_get (D := D) (ci := 0) (v := .ref (b 3)) (C := RX0) (T := TX0) (N := 10) hx hb hts iX4_checkSeat_0 hown hK hP 1 rfl rfl 3 (by decide) (hts (.fieldLink RX4 268 "HallSights$Hall" "seats" "[I") (List.mem_of_getElem? (i := 4) rfl)) (fun _ h9 => h9) rfl dX4_checkSeat_14 ?_
      refine lv_iload_n hx hb dX4_checkSeat_17 rfl (lv_at hl 1 rfl) ?_
      refine kx_iald hx hb hK hP 4 0 rfl rfl (by omega) (by decide) dX4_checkSeat_18 ?_
      refine kx_top (wf_S hw (show (r0) < nR z by omega)) ?_
      have hS12_3 := wf_S12 hw (show (r0) < nR z by omega)
      refine lv_icmp_lt (tgt := 33) hx hb dX4_checkSeat_19 (by decide) (fun c_19_4 => ?_) (fun c_19_5 => ?_)
      · have c_19_4 : (se : Int32) < (nI (nS z (r0))) := c_19_4
        have hT9 : (if isSeatB z (nI r0) se = true then 0 else 1 : Nat) = 0 := by first | (simp [isSeatB, hb2_0, hc_r0, c_6_2, Int32.not_lt.mp c_6_2, c_19_4, Int32.not_le.mpr c_19_4]; done) | (simp [isSeatB, nI_clamp (show r0 < 2 ^ 31 by omega), wthn0 (show nS z r0 ≤ 1000 by omega), hb2_0, hc_r0, c_6_2, Int32.not_lt.mp c_6_2, c_19_4, Int32.not_le.mpr c_19_4]; done)
        subst hw0
        exact kX_vret hx hb hrt hlocks hT9 hP hD hS ⟨Nat.le_of_ble_eq_true rfl, Nat.le_of_ble_eq_true rfl⟩ dX4_checkSeat_33
      · have c_19_5 : ¬ (se : Int32) < (nI (nS z (r0))) := c_19_5
        have hT9 : (if isSeatB z (nI r0) se = true then 0 else 1 : Nat) = 1 := by first | (simp [isSeatB, hb2_0, hc_r0, c_6_2, Int32.not_lt.mp c_6_2, c_19_5, Int32.not_lt.mp c_19_5]; done) | (simp [isSeatB, nI_clamp (show r0 < 2 ^ 31 by omega), wthn0 (show nS z r0 ≤ 1000 by omega), hb2_0, hc_r0, c_6_2, Int32.not_lt.mp c_6_2, c_19_5, Int32.not_lt.mp c_19_5]; done)
        subst hw0
        exact kxTW (text := "there is no such seat") hx hb hst hown xf_IO (hts (.classLink RX4 263 "java/lang/IndexOutOfBoundsException") (List.mem_of_getElem? (i := 1) rfl)) (hts (.initialized "java/lang/IndexOutOfBoundsException") (List.mem_of_getElem? (i := 2) rfl)) hF (List.mem_of_getElem? (i := 17) rfl) (xat hF xb_IO (fun w h => hts w (List.mem_cons_of_mem _ (List.mem_append_right _ h)))) xg_IO hXx (hl.1.trans hml.symm) dX4_checkSeat_22 dX4_checkSeat_25 dX4_checkSeat_26 dX4_checkSeat_29 dX4_checkSeat_32 hxt ⟨Nat.le_of_ble_eq_true rfl, Nat.le_of_ble_eq_true rfl, Nat.le_of_ble_eq_true rfl, Nat.le_of_ble_eq_true rfl⟩ hlocks (Or.inl ⟨hT9, rfl⟩) hP hD hS ⟨Nat.le_of_ble_eq_true rfl, Nat.le_of_ble_eq_true rfl⟩
set_option maxHeartbeats 4000000 in
set_option maxRecDepth 100000 in
theorem c_X4_checkSetting (l : Launch) (hst : l.stackTraces = false) (D : va_G) (cI cC cH cL : ClassId) (y : Nat → Nat)  (st0 : Int32)  : vx_Met l yX4_checkSetting wsX4_checkSetting ({ frames := 6, cells := 1, slots := 6, locals := 82 }) (kwx y [.int st0] D ([]) (kT cI cC cH cL)) (kqx D ([]) (if wthn st0 (nI 0) (nI 3 - nI 1) = true then 0 else 1) ([]) (.returned none)) (kX D ([]) "java/lang/IndexOutOfBoundsException" "java/lang/IndexOutOfBoundsException" (if wthn st0 (nI 0) (nI 3 - nI 1) = true then 0 else 1) ([])) 1 6 (kA ([])) := by
  refine vx_ofW (cc := cX4_checkSetting) (maxL := 1) (ret := none) (by decide) rfl ?_
  intro p e s m args below meth c s₁ B hml hxt hv
  obtain ⟨⟨rfl, hP, hK, hD0⟩, hX9, hF⟩ := hv
  have hx := B.exec
  have hb := B.bytes
  have hrt := B.returns
  have hts := atoms_spec (ws := wsX4_checkSetting) B.pre
  have hown : s.vm.findClass RX4 = some m.cls := findClass_of_methodNamed B.named
  have hlocks := B.notSynchronized
  have hl := lv_entry ([.int st0]) (n := 1) (Nat.le_of_ble_eq_true rfl)
  rw [lg_entry_eq]
  generalize (lg_sl ([.int st0]) ++ List.replicate (1 - (lg_sl ([.int st0])).length) Slot.unset).toArray = ls at hl ⊢
  have hl : lv_has ls 1 [(0, .int st0)] := hl
  have hD := kA_self hD0
  obtain ⟨w0, hw0⟩ : ∃ w : va_W, w = [] := ⟨_, rfl⟩
  have hD : va_D (kA w0) ([]) := by rw [hw0]; exact hD
  have hS : va_S (kA w0) s.heap s.heap [] := va_S.rf
  have hXx : hX y (kA w0) s s.heap := by rw [hw0]; exact hX9
  have hZ := hXx.1
  rw [show kA ([]) = kA w0 from by rw [hw0], show kqx D ([]) = kqx D w0 from by rw [hw0], show kX D ([]) = kX D w0 from by rw [hw0]]
  have hP : va_P D vwCl ([]) s.heap := hP
  refine lv_iload_n hx hb dX4_checkSetting_0 rfl (lv_at hl 0 rfl) ?_
  refine lv_if_lt (tgt := 9) hx hb dX4_checkSetting_1 (by decide) (fun c_1_0 => ?_) (fun c_1_1 => ?_)
  · have c_1_0 : (st0 : Int32) < 0 := c_1_0
    have hT9 : (if wthn st0 (nI 0) (nI 3 - nI 1) = true then 0 else 1 : Nat) = 1 := by first | rfl | omega | (simp [wthn0 (show 3 ≤ 1000 by omega), Int32.not_lt, Int32.not_le, c_1_0, Int32.not_le.mpr c_1_0]; done) | (simp [wthn0 (show 3 ≤ 1000 by omega), Int32.not_lt, Int32.not_le, c_1_0, Int32.not_le.mpr c_1_0]; omega) | (revert c_1_0; simp +contextual [wthn0 (show 3 ≤ 1000 by omega), Int32.not_lt, Int32.not_le]; done) | (revert c_1_0; simp +contextual [wthn0 (show 3 ≤ 1000 by omega), Int32.not_lt, Int32.not_le]; omega)
    subst hw0
    exact kxTW (text := "there is no such setting") hx hb hst hown xf_IO (hts (.classLink RX4 263 "java/lang/IndexOutOfBoundsException") (List.mem_of_getElem? (i := 1) rfl)) (hts (.initialized "java/lang/IndexOutOfBoundsException") (List.mem_of_getElem? (i := 2) rfl)) hF (List.mem_of_getElem? (i := 19) rfl) (xat hF xb_IO (fun w h => hts w (List.mem_cons_of_mem _ (List.mem_append_right _ h)))) xg_IO hXx (hl.1.trans hml.symm) dX4_checkSetting_9 dX4_checkSetting_12 dX4_checkSetting_13 dX4_checkSetting_16 dX4_checkSetting_19 hxt ⟨Nat.le_of_ble_eq_true rfl, Nat.le_of_ble_eq_true rfl, Nat.le_of_ble_eq_true rfl, Nat.le_of_ble_eq_true rfl⟩ hlocks (Or.inl ⟨hT9, rfl⟩) hP hD hS ⟨Nat.le_of_ble_eq_true rfl, Nat.le_of_ble_eq_true rfl⟩
  · have c_1_1 : ¬ (st0 : Int32) < 0 := c_1_1
    refine lv_iload_n hx hb dX4_checkSetting_4 rfl (lv_at hl 0 rfl) ?_
    refine lv_iconst (v := nI 3) hx hb dX4_checkSetting_5 (by decide) ?_
    refine lv_icmp_lt (tgt := 20) hx hb dX4_checkSetting_6 (by decide) (fun c_6_2 => ?_) (fun c_6_3 => ?_)
    · have c_6_2 : (st0 : Int32) < (nI 3) := c_6_2
      have hT9 : (if wthn st0 (nI 0) (nI 3 - nI 1) = true then 0 else 1 : Nat) = 0 := by first | rfl | omega | (simp [wthn0 (show 3 ≤ 1000 by omega), Int32.not_lt, Int32.not_le, c_1_1, Int32.not_lt.mp c_1_1, c_6_2, Int32.not_le.mpr c_6_2]; done) | (simp [wthn0 (show 3 ≤ 1000 by omega), Int32.not_lt, Int32.not_le, c_1_1, Int32.not_lt.mp c_1_1, c_6_2, Int32.not_le.mpr c_6_2]; omega) | (revert c_1_1 c_6_2; simp +contextual [wthn0 (show 3 ≤ 1000 by omega), Int32.not_lt, Int32.not_le]; done) | (revert c_1_1 c_6_2; simp +contextual [wthn0 (show 3 ≤ 1000 by omega), Int32.not_lt, Int32.not_le]; omega)
      subst hw0
      exact kX_vret hx hb hrt hlocks hT9 hP hD hS ⟨Nat.le_of_ble_eq_true rfl, Nat.le_of_ble_eq_true rfl⟩ dX4_checkSetting_20
    · have c_6_3 : ¬ (st0 : Int32) < (nI 3) := c_6_3
      have hT9 : (if wthn st0 (nI 0) (nI 3 - nI 1) = true then 0 else 1 : Nat) = 1 := by first | rfl | omega | (simp [wthn0 (show 3 ≤ 1000 by omega), Int32.not_lt, Int32.not_le, c_1_1, Int32.not_lt.mp c_1_1, c_6_3, Int32.not_lt.mp c_6_3]; done) | (simp [wthn0 (show 3 ≤ 1000 by omega), Int32.not_lt, Int32.not_le, c_1_1, Int32.not_lt.mp c_1_1, c_6_3, Int32.not_lt.mp c_6_3]; omega) | (revert c_1_1 c_6_3; simp +contextual [wthn0 (show 3 ≤ 1000 by omega), Int32.not_lt, Int32.not_le]; done) | (revert c_1_1 c_6_3; simp +contextual [wthn0 (show 3 ≤ 1000 by omega), Int32.not_lt, Int32.not_le]; omega)
      subst hw0
      exact kxTW (text := "there is no such setting") hx hb hst hown xf_IO (hts (.classLink RX4 263 "java/lang/IndexOutOfBoundsException") (List.mem_of_getElem? (i := 1) rfl)) (hts (.initialized "java/lang/IndexOutOfBoundsException") (List.mem_of_getElem? (i := 2) rfl)) hF (List.mem_of_getElem? (i := 19) rfl) (xat hF xb_IO (fun w h => hts w (List.mem_cons_of_mem _ (List.mem_append_right _ h)))) xg_IO hXx (hl.1.trans hml.symm) dX4_checkSetting_9 dX4_checkSetting_12 dX4_checkSetting_13 dX4_checkSetting_16 dX4_checkSetting_19 hxt ⟨Nat.le_of_ble_eq_true rfl, Nat.le_of_ble_eq_true rfl, Nat.le_of_ble_eq_true rfl, Nat.le_of_ble_eq_true rfl⟩ hlocks (Or.inl ⟨hT9, rfl⟩) hP hD hS ⟨Nat.le_of_ble_eq_true rfl, Nat.le_of_ble_eq_true rfl⟩
set_option maxHeartbeats 4000000 in
set_option maxRecDepth 100000 in
theorem c_X4_checkHeight (l : Launch) (hst : l.stackTraces = false) (D : va_G) (cI cC cH cL : ClassId) (y : Nat → Nat)  (h0 : Int32)  : vx_Met l yX4_checkHeight wsX4_checkHeight ({ frames := 6, cells := 1, slots := 6, locals := 82 }) (kwx y [.int h0] D ([]) (kT cI cC cH cL)) (kqx D ([]) (if wthn h0 (nI 0) (nI 999) = true then 0 else 1) ([]) (.returned none)) (kX D ([]) "java/lang/IllegalArgumentException" "java/lang/IllegalArgumentException" (if wthn h0 (nI 0) (nI 999) = true then 0 else 1) ([])) 1 6 (kA ([])) := by
  refine vx_ofW (cc := cX4_checkHeight) (maxL := 1) (ret := none) (by decide) rfl ?_
  intro p e s m args below meth c s₁ B hml hxt hv
  obtain ⟨⟨rfl, hP, hK, hD0⟩, hX9, hF⟩ := hv
  have hx := B.exec
  have hb := B.bytes
  have hrt := B.returns
  have hts := atoms_spec (ws := wsX4_checkHeight) B.pre
  have hown : s.vm.findClass RX4 = some m.cls := findClass_of_methodNamed B.named
  have hlocks := B.notSynchronized
  have hl := lv_entry ([.int h0]) (n := 1) (Nat.le_of_ble_eq_true rfl)
  rw [lg_entry_eq]
  generalize (lg_sl ([.int h0]) ++ List.replicate (1 - (lg_sl ([.int h0])).length) Slot.unset).toArray = ls at hl ⊢
  have hl : lv_has ls 1 [(0, .int h0)] := hl
  have hD := kA_self hD0
  obtain ⟨w0, hw0⟩ : ∃ w : va_W, w = [] := ⟨_, rfl⟩
  have hD : va_D (kA w0) ([]) := by rw [hw0]; exact hD
  have hS : va_S (kA w0) s.heap s.heap [] := va_S.rf
  have hXx : hX y (kA w0) s s.heap := by rw [hw0]; exact hX9
  have hZ := hXx.1
  rw [show kA ([]) = kA w0 from by rw [hw0], show kqx D ([]) = kqx D w0 from by rw [hw0], show kX D ([]) = kX D w0 from by rw [hw0]]
  have hP : va_P D vwCl ([]) s.heap := hP
  refine lv_iload_n hx hb dX4_checkHeight_0 rfl (lv_at hl 0 rfl) ?_
  refine lv_if_lt (tgt := 11) hx hb dX4_checkHeight_1 (by decide) (fun c_1_0 => ?_) (fun c_1_1 => ?_)
  · have c_1_0 : (h0 : Int32) < 0 := c_1_0
    have hT9 : (if wthn h0 (nI 0) (nI 999) = true then 0 else 1 : Nat) = 1 := by first | rfl | omega | (simp [wthn, kx_n1, Int32.not_lt, Int32.not_le, c_1_0, Int32.not_le.mpr c_1_0]; done) | (simp [wthn, kx_n1, Int32.not_lt, Int32.not_le, c_1_0, Int32.not_le.mpr c_1_0]; omega) | (revert c_1_0; simp +contextual [wthn, kx_n1, Int32.not_lt, Int32.not_le]; done) | (revert c_1_0; simp +contextual [wthn, kx_n1, Int32.not_lt, Int32.not_le]; omega)
    subst hw0
    exact kxTW (text := "height is not 0 to 999") hx hb hst hown xf_IA (hts (.classLink RX4 38 "java/lang/IllegalArgumentException") (List.mem_of_getElem? (i := 1) rfl)) (hts (.initialized "java/lang/IllegalArgumentException") (List.mem_of_getElem? (i := 2) rfl)) hF (List.mem_of_getElem? (i := 20) rfl) (xat hF xb_IA (fun w h => hts w (List.mem_cons_of_mem _ (List.mem_append_right _ h)))) xg_IA hXx (hl.1.trans hml.symm) dX4_checkHeight_11 dX4_checkHeight_14 dX4_checkHeight_15 dX4_checkHeight_18 dX4_checkHeight_21 hxt ⟨Nat.le_of_ble_eq_true rfl, Nat.le_of_ble_eq_true rfl, Nat.le_of_ble_eq_true rfl, Nat.le_of_ble_eq_true rfl⟩ hlocks (Or.inl ⟨hT9, rfl⟩) hP hD hS ⟨Nat.le_of_ble_eq_true rfl, Nat.le_of_ble_eq_true rfl⟩
  · have c_1_1 : ¬ (h0 : Int32) < 0 := c_1_1
    refine lv_iload_n hx hb dX4_checkHeight_4 rfl (lv_at hl 0 rfl) ?_
    refine lv_sipush (v := nI 999) hx hb dX4_checkHeight_5 (by decide) ?_
    refine lv_icmp_le (tgt := 22) hx hb dX4_checkHeight_8 (by decide) (fun c_8_2 => ?_) (fun c_8_3 => ?_)
    · have c_8_2 : (h0 : Int32) ≤ (nI 999) := c_8_2
      have hT9 : (if wthn h0 (nI 0) (nI 999) = true then 0 else 1 : Nat) = 0 := by first | rfl | omega | (simp [wthn, kx_n1, Int32.not_lt, Int32.not_le, c_1_1, Int32.not_lt.mp c_1_1, c_8_2, Int32.not_lt.mpr c_8_2]; done) | (simp [wthn, kx_n1, Int32.not_lt, Int32.not_le, c_1_1, Int32.not_lt.mp c_1_1, c_8_2, Int32.not_lt.mpr c_8_2]; omega) | (revert c_1_1 c_8_2; simp +contextual [wthn, kx_n1, Int32.not_lt, Int32.not_le]; done) | (revert c_1_1 c_8_2; simp +contextual [wthn, kx_n1, Int32.not_lt, Int32.not_le]; omega)
      subst hw0
      exact kX_vret hx hb hrt hlocks hT9 hP hD hS ⟨Nat.le_of_ble_eq_true rfl, Nat.le_of_ble_eq_true rfl⟩ dX4_checkHeight_22
    · have c_8_3 : ¬ (h0 : Int32) ≤ (nI 999) := c_8_3
      have hT9 : (if wthn h0 (nI 0) (nI 999) = true then 0 else 1 : Nat) = 1 := by first | rfl | omega | (simp [wthn, kx_n1, Int32.not_lt, Int32.not_le, c_1_1, Int32.not_lt.mp c_1_1, c_8_3, Int32.not_le.mp c_8_3]; done) | (simp [wthn, kx_n1, Int32.not_lt, Int32.not_le, c_1_1, Int32.not_lt.mp c_1_1, c_8_3, Int32.not_le.mp c_8_3]; omega) | (revert c_1_1 c_8_3; simp +contextual [wthn, kx_n1, Int32.not_lt, Int32.not_le]; done) | (revert c_1_1 c_8_3; simp +contextual [wthn, kx_n1, Int32.not_lt, Int32.not_le]; omega)
      subst hw0
      exact kxTW (text := "height is not 0 to 999") hx hb hst hown xf_IA (hts (.classLink RX4 38 "java/lang/IllegalArgumentException") (List.mem_of_getElem? (i := 1) rfl)) (hts (.initialized "java/lang/IllegalArgumentException") (List.mem_of_getElem? (i := 2) rfl)) hF (List.mem_of_getElem? (i := 20) rfl) (xat hF xb_IA (fun w h => hts w (List.mem_cons_of_mem _ (List.mem_append_right _ h)))) xg_IA hXx (hl.1.trans hml.symm) dX4_checkHeight_11 dX4_checkHeight_14 dX4_checkHeight_15 dX4_checkHeight_18 dX4_checkHeight_21 hxt ⟨Nat.le_of_ble_eq_true rfl, Nat.le_of_ble_eq_true rfl, Nat.le_of_ble_eq_true rfl, Nat.le_of_ble_eq_true rfl⟩ hlocks (Or.inl ⟨hT9, rfl⟩) hP hD hS ⟨Nat.le_of_ble_eq_true rfl, Nat.le_of_ble_eq_true rfl⟩
set_option maxHeartbeats 4000000 in
set_option maxRecDepth 100000 in
theorem c_X4_checkWhat (l : Launch) (hst : l.stackTraces = false) (D : va_G) (cI cC cH cL : ClassId) (y : Nat → Nat)  (wh : Int32) (pn : Nat) (hp : pn ≤ 1000) : vx_Met l yX4_checkWhat wsX4_checkWhat ({ frames := 6, cells := 1, slots := 6, locals := 82 }) (kwx y [.int wh, .int (nI pn)] D ([]) (kT cI cC cH cL)) (kqx D ([]) (if wthn wh (nI 0) (nI pn - nI 1) = true then 0 else 1) ([]) (.returned none)) (kX D ([]) "java/lang/IllegalArgumentException" "java/lang/IllegalArgumentException" (if wthn wh (nI 0) (nI pn - nI 1) = true then 0 else 1) ([])) 1 6 (kA ([])) := by
  refine vx_ofW (cc := cX4_checkWhat) (maxL := 2) (ret := none) (by decide) rfl ?_
  intro p e s m args below meth c s₁ B hml hxt hv
  obtain ⟨⟨rfl, hP, hK, hD0⟩, hX9, hF⟩ := hv
  have hx := B.exec
  have hb := B.bytes
  have hrt := B.returns
  have hts := atoms_spec (ws := wsX4_checkWhat) B.pre
  have hown : s.vm.findClass RX4 = some m.cls := findClass_of_methodNamed B.named
  have hlocks := B.notSynchronized
  have hl := lv_entry ([.int wh, .int (nI pn)]) (n := 2) (Nat.le_of_ble_eq_true rfl)
  rw [lg_entry_eq]
  generalize (lg_sl ([.int wh, .int (nI pn)]) ++ List.replicate (2 - (lg_sl ([.int wh, .int (nI pn)])).length) Slot.unset).toArray = ls at hl ⊢
  have hl : lv_has ls 2 [(0, .int wh), (1, .int (nI pn))] := hl
  have hD := kA_self hD0
  obtain ⟨w0, hw0⟩ : ∃ w : va_W, w = [] := ⟨_, rfl⟩
  have hD : va_D (kA w0) ([]) := by rw [hw0]; exact hD
  have hS : va_S (kA w0) s.heap s.heap [] := va_S.rf
  have hXx : hX y (kA w0) s s.heap := by rw [hw0]; exact hX9
  have hZ := hXx.1
  rw [show kA ([]) = kA w0 from by rw [hw0], show kqx D ([]) = kqx D w0 from by rw [hw0], show kX D ([]) = kX D w0 from by rw [hw0]]
  have hP : va_P D vwCl ([]) s.heap := hP
  refine lv_iload_n hx hb dX4_checkWhat_0 rfl (lv_at hl 0 rfl) ?_
  refine lv_if_lt (tgt := 9) hx hb dX4_checkWhat_1 (by decide) (fun c_1_0 => ?_) (fun c_1_1 => ?_)
  · have c_1_0 : (wh : Int32) < 0 := c_1_0
    have hT9 : (if wthn wh (nI 0) (nI pn - nI 1) = true then 0 else 1 : Nat) = 1 := by first | rfl | omega | (simp [wthn0 hp, Int32.not_lt, Int32.not_le, c_1_0, Int32.not_le.mpr c_1_0]; done) | (simp [wthn0 hp, Int32.not_lt, Int32.not_le, c_1_0, Int32.not_le.mpr c_1_0]; omega) | (revert c_1_0; simp +contextual [wthn0 hp, Int32.not_lt, Int32.not_le]; done) | (revert c_1_0; simp +contextual [wthn0 hp, Int32.not_lt, Int32.not_le]; omega)
    subst hw0
    exact kxTW (text := "there is no such property") hx hb hst hown xf_IA (hts (.classLink RX4 38 "java/lang/IllegalArgumentException") (List.mem_of_getElem? (i := 1) rfl)) (hts (.initialized "java/lang/IllegalArgumentException") (List.mem_of_getElem? (i := 2) rfl)) hF (List.mem_of_getElem? (i := 21) rfl) (xat hF xb_IA (fun w h => hts w (List.mem_cons_of_mem _ (List.mem_append_right _ h)))) xg_IA hXx (hl.1.trans hml.symm) dX4_checkWhat_9 dX4_checkWhat_12 dX4_checkWhat_13 dX4_checkWhat_16 dX4_checkWhat_19 hxt ⟨Nat.le_of_ble_eq_true rfl, Nat.le_of_ble_eq_true rfl, Nat.le_of_ble_eq_true rfl, Nat.le_of_ble_eq_true rfl⟩ hlocks (Or.inl ⟨hT9, rfl⟩) hP hD hS ⟨Nat.le_of_ble_eq_true rfl, Nat.le_of_ble_eq_true rfl⟩
  · have c_1_1 : ¬ (wh : Int32) < 0 := c_1_1
    refine lv_iload_n hx hb dX4_checkWhat_4 rfl (lv_at hl 0 rfl) ?_
    refine lv_iload_n hx hb dX4_checkWhat_5 rfl (lv_at hl 1 rfl) ?_
    refine lv_icmp_lt (tgt := 20) hx hb dX4_checkWhat_6 (by decide) (fun c_6_2 => ?_) (fun c_6_3 => ?_)
    · have c_6_2 : (wh : Int32) < (nI pn) := c_6_2
      have hT9 : (if wthn wh (nI 0) (nI pn - nI 1) = true then 0 else 1 : Nat) = 0 := by first | rfl | omega | (simp [wthn0 hp, Int32.not_lt, Int32.not_le, c_1_1, Int32.not_lt.mp c_1_1, c_6_2, Int32.not_le.mpr c_6_2]; done) | (simp [wthn0 hp, Int32.not_lt, Int32.not_le, c_1_1, Int32.not_lt.mp c_1_1, c_6_2, Int32.not_le.mpr c_6_2]; omega) | (revert c_1_1 c_6_2; simp +contextual [wthn0 hp, Int32.not_lt, Int32.not_le]; done) | (revert c_1_1 c_6_2; simp +contextual [wthn0 hp, Int32.not_lt, Int32.not_le]; omega)
      subst hw0
      exact kX_vret hx hb hrt hlocks hT9 hP hD hS ⟨Nat.le_of_ble_eq_true rfl, Nat.le_of_ble_eq_true rfl⟩ dX4_checkWhat_20
    · have c_6_3 : ¬ (wh : Int32) < (nI pn) := c_6_3
      have hT9 : (if wthn wh (nI 0) (nI pn - nI 1) = true then 0 else 1 : Nat) = 1 := by first | rfl | omega | (simp [wthn0 hp, Int32.not_lt, Int32.not_le, c_1_1, Int32.not_lt.mp c_1_1, c_6_3, Int32.not_lt.mp c_6_3]; done) | (simp [wthn0 hp, Int32.not_lt, Int32.not_le, c_1_1, Int32.not_lt.mp c_1_1, c_6_3, Int32.not_lt.mp c_6_3]; omega) | (revert c_1_1 c_6_3; simp +contextual [wthn0 hp, Int32.not_lt, Int32.not_le]; done) | (revert c_1_1 c_6_3; simp +contextual [wthn0 hp, Int32.not_lt, Int32.not_le]; omega)
      subst hw0
      exact kxTW (text := "there is no such property") hx hb hst hown xf_IA (hts (.classLink RX4 38 "java/lang/IllegalArgumentException") (List.mem_of_getElem? (i := 1) rfl)) (hts (.initialized "java/lang/IllegalArgumentException") (List.mem_of_getElem? (i := 2) rfl)) hF (List.mem_of_getElem? (i := 21) rfl) (xat hF xb_IA (fun w h => hts w (List.mem_cons_of_mem _ (List.mem_append_right _ h)))) xg_IA hXx (hl.1.trans hml.symm) dX4_checkWhat_9 dX4_checkWhat_12 dX4_checkWhat_13 dX4_checkWhat_16 dX4_checkWhat_19 hxt ⟨Nat.le_of_ble_eq_true rfl, Nat.le_of_ble_eq_true rfl, Nat.le_of_ble_eq_true rfl, Nat.le_of_ble_eq_true rfl⟩ hlocks (Or.inl ⟨hT9, rfl⟩) hP hD hS ⟨Nat.le_of_ble_eq_true rfl, Nat.le_of_ble_eq_true rfl⟩
