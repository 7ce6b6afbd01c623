theorem k_X5_addsRow : yX5_addsRow.cls = RX5 ∧ yX5_addsRow.cls ≠ "java/lang/invoke/MethodHandle" ∧ yX5_addsRow.cls ≠ "java/lang/invoke/VarHandle" ∧ (parseMethodDescriptor yX5_addsRow.desc).map (fun d => d.parameters.length) = some 3 := by decide +kernel
theorem k_X5_addsRowS : yX5_addsRow.cls ≠ "java/lang/invoke/MethodHandle" ∧ yX5_addsRow.cls ≠ "java/lang/invoke/VarHandle" ∧ (parseMethodDescriptor yX5_addsRow.desc).map (fun d => d.parameters.length) = some 3 := k_X5_addsRow.2
theorem k_X5_bestAt : yX5_bestAt.cls = RX5 ∧ yX5_bestAt.cls ≠ "java/lang/invoke/MethodHandle" ∧ yX5_bestAt.cls ≠ "java/lang/invoke/VarHandle" ∧ (parseMethodDescriptor yX5_bestAt.desc).map (fun d => d.parameters.length) = some 1 := by decide +kernel
theorem k_X5_bestAtS : yX5_bestAt.cls ≠ "java/lang/invoke/MethodHandle" ∧ yX5_bestAt.cls ≠ "java/lang/invoke/VarHandle" ∧ (parseMethodDescriptor yX5_bestAt.desc).map (fun d => d.parameters.length) = some 1 := k_X5_bestAt.2
theorem k_X5_canAddRow : yX5_canAddRow.cls = RX5 ∧ yX5_canAddRow.cls ≠ "java/lang/invoke/MethodHandle" ∧ yX5_canAddRow.cls ≠ "java/lang/invoke/VarHandle" ∧ (parseMethodDescriptor yX5_canAddRow.desc).map (fun d => d.parameters.length) = some 1 := by decide +kernel
theorem k_X5_canAddRowS : yX5_canAddRow.cls ≠ "java/lang/invoke/MethodHandle" ∧ yX5_canAddRow.cls ≠ "java/lang/invoke/VarHandle" ∧ (parseMethodDescriptor yX5_canAddRow.desc).map (fun d => d.parameters.length) = some 1 := k_X5_canAddRow.2
theorem k_X5_columnNow : yX5_columnNow.cls = RX5 ∧ yX5_columnNow.cls ≠ "java/lang/invoke/MethodHandle" ∧ yX5_columnNow.cls ≠ "java/lang/invoke/VarHandle" ∧ (parseMethodDescriptor yX5_columnNow.desc).map (fun d => d.parameters.length) = some 2 := by decide +kernel
theorem k_X5_columnNowS : yX5_columnNow.cls ≠ "java/lang/invoke/MethodHandle" ∧ yX5_columnNow.cls ≠ "java/lang/invoke/VarHandle" ∧ (parseMethodDescriptor yX5_columnNow.desc).map (fun d => d.parameters.length) = some 2 := k_X5_columnNow.2
theorem k_X5_counted : yX5_counted.cls = RX5 ∧ yX5_counted.cls ≠ "java/lang/invoke/MethodHandle" ∧ yX5_counted.cls ≠ "java/lang/invoke/VarHandle" ∧ (parseMethodDescriptor yX5_counted.desc).map (fun d => d.parameters.length) = some 1 := by decide +kernel
theorem k_X5_countedS : yX5_counted.cls ≠ "java/lang/invoke/MethodHandle" ∧ yX5_counted.cls ≠ "java/lang/invoke/VarHandle" ∧ (parseMethodDescriptor yX5_counted.desc).map (fun d => d.parameters.length) = some 1 := k_X5_counted.2
theorem k_X5_isColumn : yX5_isColumn.cls = RX5 ∧ yX5_isColumn.cls ≠ "java/lang/invoke/MethodHandle" ∧ yX5_isColumn.cls ≠ "java/lang/invoke/VarHandle" ∧ (parseMethodDescriptor yX5_isColumn.desc).map (fun d => d.parameters.length) = some 1 := by decide +kernel
theorem k_X5_isColumnS : yX5_isColumn.cls ≠ "java/lang/invoke/MethodHandle" ∧ yX5_isColumn.cls ≠ "java/lang/invoke/VarHandle" ∧ (parseMethodDescriptor yX5_isColumn.desc).map (fun d => d.parameters.length) = some 1 := k_X5_isColumn.2
theorem k_X5_isFar : yX5_isFar.cls = RX5 ∧ yX5_isFar.cls ≠ "java/lang/invoke/MethodHandle" ∧ yX5_isFar.cls ≠ "java/lang/invoke/VarHandle" ∧ (parseMethodDescriptor yX5_isFar.desc).map (fun d => d.parameters.length) = some 1 := by decide +kernel
theorem k_X5_isFarS : yX5_isFar.cls ≠ "java/lang/invoke/MethodHandle" ∧ yX5_isFar.cls ≠ "java/lang/invoke/VarHandle" ∧ (parseMethodDescriptor yX5_isFar.desc).map (fun d => d.parameters.length) = some 1 := k_X5_isFar.2
theorem k_X5_isHeight : yX5_isHeight.cls = RX5 ∧ yX5_isHeight.cls ≠ "java/lang/invoke/MethodHandle" ∧ yX5_isHeight.cls ≠ "java/lang/invoke/VarHandle" ∧ (parseMethodDescriptor yX5_isHeight.desc).map (fun d => d.parameters.length) = some 1 := by decide +kernel
theorem k_X5_isHeightS : yX5_isHeight.cls ≠ "java/lang/invoke/MethodHandle" ∧ yX5_isHeight.cls ≠ "java/lang/invoke/VarHandle" ∧ (parseMethodDescriptor yX5_isHeight.desc).map (fun d => d.parameters.length) = some 1 := k_X5_isHeight.2
theorem k_X5_isSeat : yX5_isSeat.cls = RX5 ∧ yX5_isSeat.cls ≠ "java/lang/invoke/MethodHandle" ∧ yX5_isSeat.cls ≠ "java/lang/invoke/VarHandle" ∧ (parseMethodDescriptor yX5_isSeat.desc).map (fun d => d.parameters.length) = some 2 := by decide +kernel
theorem k_X5_isSeatS : yX5_isSeat.cls ≠ "java/lang/invoke/MethodHandle" ∧ yX5_isSeat.cls ≠ "java/lang/invoke/VarHandle" ∧ (parseMethodDescriptor yX5_isSeat.desc).map (fun d => d.parameters.length) = some 2 := k_X5_isSeat.2
theorem k_X5_isSetting : yX5_isSetting.cls = RX5 ∧ yX5_isSetting.cls ≠ "java/lang/invoke/MethodHandle" ∧ yX5_isSetting.cls ≠ "java/lang/invoke/VarHandle" ∧ (parseMethodDescriptor yX5_isSetting.desc).map (fun d => d.parameters.length) = some 1 := by decide +kernel
theorem k_X5_isSettingS : yX5_isSetting.cls ≠ "java/lang/invoke/MethodHandle" ∧ yX5_isSetting.cls ≠ "java/lang/invoke/VarHandle" ∧ (parseMethodDescriptor yX5_isSetting.desc).map (fun d => d.parameters.length) = some 1 := k_X5_isSetting.2
theorem k_X5_isValue : yX5_isValue.cls = RX5 ∧ yX5_isValue.cls ≠ "java/lang/invoke/MethodHandle" ∧ yX5_isValue.cls ≠ "java/lang/invoke/VarHandle" ∧ (parseMethodDescriptor yX5_isValue.desc).map (fun d => d.parameters.length) = some 2 := by decide +kernel
theorem k_X5_isValueS : yX5_isValue.cls ≠ "java/lang/invoke/MethodHandle" ∧ yX5_isValue.cls ≠ "java/lang/invoke/VarHandle" ∧ (parseMethodDescriptor yX5_isValue.desc).map (fun d => d.parameters.length) = some 2 := k_X5_isValue.2
theorem k_X5_placeFor : yX5_placeFor.cls = RX5 ∧ yX5_placeFor.cls ≠ "java/lang/invoke/MethodHandle" ∧ yX5_placeFor.cls ≠ "java/lang/invoke/VarHandle" ∧ (parseMethodDescriptor yX5_placeFor.desc).map (fun d => d.parameters.length) = some 1 := by decide +kernel
theorem k_X5_placeForS : yX5_placeFor.cls ≠ "java/lang/invoke/MethodHandle" ∧ yX5_placeFor.cls ≠ "java/lang/invoke/VarHandle" ∧ (parseMethodDescriptor yX5_placeFor.desc).map (fun d => d.parameters.length) = some 1 := k_X5_placeFor.2
theorem k_X5_save : yX5_save.cls = RX5 ∧ yX5_save.cls ≠ "java/lang/invoke/MethodHandle" ∧ yX5_save.cls ≠ "java/lang/invoke/VarHandle" ∧ (parseMethodDescriptor yX5_save.desc).map (fun d => d.parameters.length) = some 0 := by decide +kernel
theorem k_X5_saveS : yX5_save.cls ≠ "java/lang/invoke/MethodHandle" ∧ yX5_save.cls ≠ "java/lang/invoke/VarHandle" ∧ (parseMethodDescriptor yX5_save.desc).map (fun d => d.parameters.length) = some 0 := k_X5_save.2
theorem k_X5_share : yX5_share.cls = RX5 ∧ yX5_share.cls ≠ "java/lang/invoke/MethodHandle" ∧ yX5_share.cls ≠ "java/lang/invoke/VarHandle" ∧ (parseMethodDescriptor yX5_share.desc).map (fun d => d.parameters.length) = some 0 := by decide +kernel
theorem k_X5_shareS : yX5_share.cls ≠ "java/lang/invoke/MethodHandle" ∧ yX5_share.cls ≠ "java/lang/invoke/VarHandle" ∧ (parseMethodDescriptor yX5_share.desc).map (fun d => d.parameters.length) = some 0 := k_X5_share.2
theorem k_X5_worstNow : yX5_worstNow.cls = RX5 ∧ yX5_worstNow.cls ≠ "java/lang/invoke/MethodHandle" ∧ yX5_worstNow.cls ≠ "java/lang/invoke/VarHandle" ∧ (parseMethodDescriptor yX5_worstNow.desc).map (fun d => d.parameters.length) = some 0 := by decide +kernel
theorem k_X5_worstNowS : yX5_worstNow.cls ≠ "java/lang/invoke/MethodHandle" ∧ yX5_worstNow.cls ≠ "java/lang/invoke/VarHandle" ∧ (parseMethodDescriptor yX5_worstNow.desc).map (fun d => d.parameters.length) = some 0 := k_X5_worstNow.2
set_option maxRecDepth 20000 in
theorem iX5_addRow_5 : ∀ w ∈ wsX50, w ∈ wsX5_addRow := by decide +kernel
set_option maxHeartbeats 4000000 in
set_option maxRecDepth 100000 in
theorem c_X5_addRow (l : Launch) (D : va_G) (cI cC cH cL : ClassId) (a : Nat → Nat) (z zh tx pa wy : ZZ) (ns nl : Nat) (th rd nu pt : Int32) (za : Int64) (d0 : Int32) (h0 : Int32) (s0 : Int32) (hw : WF z) (hn : ns ≤ 6) : Met l yX5_addRow wsX5_addRow ({ frames := 2, cells := 0, slots := 0, locals := 48 }) (kw [.ref (a 0), .int d0, .int h0, .int s0] D (MW a cI z (nI ns) zh (nI nl) tx th pa rd nu pt wy za) (kT cI cC cH cL)) (kq D (MW a cI z (nI ns) zh (nI nl) tx th pa rd nu pt wy za) (MW a cI (if tAddRow z d0 h0 s0 = 0 then insZ z d0 h0 s0 else z) (nI (if tAddRow z d0 h0 s0 = 0 then saveN ns else ns)) (if tAddRow z d0 h0 s0 = 0 then saveH z zh ns else zh) (nI nl) tx (nI (tAddRow z d0 h0 s0)) pa rd nu pt wy za) (.returned (some (.int (if tAddRow z d0 h0 s0 = 0 then nI (insAt z d0 (nR z)) else nI 0))))) 0 0 (kA (MW a cI z (nI ns) zh (nI nl) tx th pa rd nu pt wy za)) := by
  refine Met.ofW (cc := cX5_addRow) (maxL := 5) (ret := (some .int)) (by decide) rfl ?_
  intro p e s m args below meth c s₁ B hml hv
  obtain ⟨rfl, hP, hK, hD0⟩ := hv
  have hx := B.exec
  have hb := B.bytes
  have hrt := B.returns
  have hts := atoms_spec (ws := wsX5_addRow) B.pre
  have hown : s.vm.findClass RX5 = some m.cls := findClass_of_methodNamed B.named
  have hlocks := B.notSynchronized
  have hl := lv_entry ([.ref (a 0), .int d0, .int h0, .int s0]) (n := 5) (Nat.le_of_ble_eq_true rfl)
  rw [lg_entry_eq]
  generalize (lg_sl ([.ref (a 0), .int d0, .int h0, .int s0]) ++ List.replicate (5 - (lg_sl ([.ref (a 0), .int d0, .int h0, .int s0])).length) Slot.unset).toArray = ls at hl ⊢
  have hl : lv_has ls 5 [(0, .ref (a 0)), (1, .int d0), (2, .int h0), (3, .int s0)] := hl
  have hD := kA_self hD0
  obtain ⟨w0, hw0⟩ : ∃ w : va_W, w = MW a cI z (nI ns) zh (nI nl) tx th pa rd nu pt wy za := ⟨_, rfl⟩
  have hD : va_D (kA w0) (MW a cI z (nI ns) zh (nI nl) tx th pa rd nu pt wy za) := by rw [hw0]; exact hD
  have hS : va_S (kA w0) s.heap s.heap [] := va_S.rf
  rw [show kA (MW a cI z (nI ns) zh (nI nl) tx th pa rd nu pt wy za) = kA w0 from by rw [hw0], show kq D (MW a cI z (nI ns) zh (nI nl) tx th pa rd nu pt wy za) = kq D w0 from by rw [hw0]]
  have hP : va_P D vwCl (MW a cI z (nI ns) zh (nI nl) tx th pa rd nu pt wy za) s.heap := hP
  have hR10 := wf_R10 hw
  have hC4 := wf_C4 hw
  refine lv_iload_n hx hb dX5_addRow_0 rfl (lv_at hl 1 rfl) ?_
  refine kr_S (As := [.int d0]) (rest := []) (own := RX5) ⟨hx, hb, hml, hown, hts⟩ (c_X5_isFar l D cI cC cH cL  d0 ) (va_cwS 1 hts gX5_addRow_X5_isFar rfl rfl rfl k_X5_isFarS ⟨Nat.le_of_ble_eq_true rfl, Nat.le_of_ble_eq_true rfl⟩) (hP.sub (ws' := []) [] rfl) hK rfl hl.1 rfl (Nat.le_of_ble_eq_true rfl) dX5_addRow_1 ⟨Nat.le_of_ble_eq_true rfl, Nat.le_of_ble_eq_true rfl⟩ ?_
  refine kx_if_eqb (tgt := 28) hx hb dX5_addRow_4 (by decide) (fun c_4_0 => ?_) (fun c_4_1 => ?_)
  · refine lv_iconst (v := nI 0) hx hb dX5_addRow_28 (by decide) ?_
    refine lv_istore (lv' := [(4, .int (nI 0)), (0, .ref (a 0)), (1, .int d0), (2, .int h0), (3, .int s0)]) hx hb dX5_addRow_29 hl (by decide) rfl (fun ls hl => ?_)
    refine lv_aload_n hx hb dX5_addRow_31 rfl (lv_at hl 1 rfl) ?_
    refine lv_iload hx hb dX5_addRow_32 (lv_at hl 0 rfl) ?_
    refine kx_if_ne (tgt := 41) hx hb (by omega) dX5_addRow_34 (by decide) (fun c => absurd c (by omega)) (fun c_34_2 => ?_)
    refine lv_iconst (v := nI 1) hx hb dX5_addRow_37 (by decide) ?_
    refine lv_goto (tgt := 54) hx hb dX5_addRow_38 (by decide) ?_
    refine va_put (D := D) (ci := 5) (v := .int (nI 1)) (ty := .int) (C := RX5) (T := TX5) (N := 12) hx hb hts iX5_addRow_5 tyX5 tyX5_ok nmX5 hown hK hP hD hS 0 rfl rfl 5 (by decide) (hts (.fieldLink RX5 25 "HallSightsModel" "thrown" "I") (List.mem_of_getElem? (i := 1) rfl)) (fun _ h9 => h9) rfl (by decide +kernel) rfl rfl (Nat.le_of_ble_eq_true rfl) dX5_addRow_54 (fun H locs hP hD hS => ?_)
    have hP : va_P D vwCl (MW a cI z (nI ns) zh (nI nl) tx (nI 1) pa rd nu pt wy za) H := hP
    have hD : va_D (kA w0) (MW a cI z (nI ns) zh (nI nl) tx (nI 1) pa rd nu pt wy za) := hD
    refine lv_aload_n hx hb dX5_addRow_57 rfl (lv_at hl 1 rfl) ?_
    refine va_get (D := D) (ci := 5) (v := .int (nI 1)) (C := RX5) (T := TX5) (N := 12) hx hb hts iX5_addRow_5 hown hK hP 0 rfl rfl 5 (by decide) (hts (.fieldLink RX5 25 "HallSightsModel" "thrown" "I") (List.mem_of_getElem? (i := 1) rfl)) (fun _ h9 => h9) rfl dX5_addRow_58 ?_
    refine kx_if_le (tgt := 66) hx hb (by omega) dX5_addRow_61 (by decide) (fun c => absurd c (by omega)) (fun c_61_3 => ?_)
    refine lv_iconst (v := nI 0) hx hb dX5_addRow_64 (by decide) ?_
    have e_4 : (nI 0 : Int32) = (if tAddRow z d0 h0 s0 = 0 then nI (insAt z d0 (nR z)) else nI 0) := by first | rfl | omega | (simp [tAddRow, Int32.not_lt, Int32.not_le, c_4_0]; done) | (simp [tAddRow, Int32.not_lt, Int32.not_le, c_4_0]; omega) | (revert c_4_0; simp +contextual [tAddRow, Int32.not_lt, Int32.not_le]; done) | (revert c_4_0; simp +contextual [tAddRow, Int32.not_lt, Int32.not_le]; omega)
    have ec_z_5 : (z : ZZ) = (if tAddRow z d0 h0 s0 = 0 then insZ z d0 h0 s0 else z) := by first | rfl | omega | (simp [tAddRow, Int32.not_lt, Int32.not_le, c_4_0]; done) | (simp [tAddRow, Int32.not_lt, Int32.not_le, c_4_0]; omega) | (revert c_4_0; simp +contextual [tAddRow, Int32.not_lt, Int32.not_le]; done) | (revert c_4_0; simp +contextual [tAddRow, Int32.not_lt, Int32.not_le]; omega)
    have ec_st_6 : ((nI ns) : Int32) = (nI (if tAddRow z d0 h0 s0 = 0 then saveN ns else ns)) := by first | rfl | omega | (simp [tAddRow, Int32.not_lt, Int32.not_le, c_4_0]; done) | (simp [tAddRow, Int32.not_lt, Int32.not_le, c_4_0]; omega) | (revert c_4_0; simp +contextual [tAddRow, Int32.not_lt, Int32.not_le]; done) | (revert c_4_0; simp +contextual [tAddRow, Int32.not_lt, Int32.not_le]; omega)
    have ec_zh_7 : (zh : ZZ) = (if tAddRow z d0 h0 s0 = 0 then saveH z zh ns else zh) := by first | rfl | omega | (simp [tAddRow, Int32.not_lt, Int32.not_le, c_4_0]; done) | (simp [tAddRow, Int32.not_lt, Int32.not_le, c_4_0]; omega) | (revert c_4_0; simp +contextual [tAddRow, Int32.not_lt, Int32.not_le]; done) | (revert c_4_0; simp +contextual [tAddRow, Int32.not_lt, Int32.not_le]; omega)
    have ec_th_8 : ((nI 1) : Int32) = (nI (tAddRow z d0 h0 s0)) := by first | rfl | omega | (simp [tAddRow, Int32.not_lt, Int32.not_le, c_4_0]; done) | (simp [tAddRow, Int32.not_lt, Int32.not_le, c_4_0]; omega) | (revert c_4_0; simp +contextual [tAddRow, Int32.not_lt, Int32.not_le]; done) | (revert c_4_0; simp +contextual [tAddRow, Int32.not_lt, Int32.not_le]; omega)
    have ew_9 : (MW a cI z (nI ns) zh (nI nl) tx (nI 1) pa rd nu pt wy za : va_W) = (MW a cI (if tAddRow z d0 h0 s0 = 0 then insZ z d0 h0 s0 else z) (nI (if tAddRow z d0 h0 s0 = 0 then saveN ns else ns)) (if tAddRow z d0 h0 s0 = 0 then saveH z zh ns else zh) (nI nl) tx (nI (tAddRow z d0 h0 s0)) pa rd nu pt wy za) := mw_c ec_z_5 ec_st_6 ec_zh_7 rfl rfl ec_th_8 rfl rfl rfl rfl rfl rfl
    rw [ew_9] at hP hD
    subst hw0
    exact kq_iret hx hb hrt hlocks e_4 hP hD hS dX5_addRow_65
  · refine lv_iload_n hx hb dX5_addRow_7 rfl (lv_at hl 2 rfl) ?_
    refine kr_S (As := [.int h0]) (rest := []) (own := RX5) ⟨hx, hb, hml, hown, hts⟩ (c_X5_isHeight l D cI cC cH cL  h0 ) (va_cwS 1 hts gX5_addRow_X5_isHeight rfl rfl rfl k_X5_isHeightS ⟨Nat.le_of_ble_eq_true rfl, Nat.le_of_ble_eq_true rfl⟩) (hP.sub (ws' := []) [] rfl) hK rfl hl.1 rfl (Nat.le_of_ble_eq_true rfl) dX5_addRow_8 ⟨Nat.le_of_ble_eq_true rfl, Nat.le_of_ble_eq_true rfl⟩ ?_
    refine kx_if_eqb (tgt := 28) hx hb dX5_addRow_11 (by decide) (fun c_11_10 => ?_) (fun c_11_11 => ?_)
    · refine lv_iconst (v := nI 0) hx hb dX5_addRow_28 (by decide) ?_
      refine lv_istore (lv' := [(4, .int (nI 0)), (0, .ref (a 0)), (1, .int d0), (2, .int h0), (3, .int s0)]) hx hb dX5_addRow_29 hl (by decide) rfl (fun ls hl => ?_)
      refine lv_aload_n hx hb dX5_addRow_31 rfl (lv_at hl 1 rfl) ?_
      refine lv_iload hx hb dX5_addRow_32 (lv_at hl 0 rfl) ?_
      refine kx_if_ne (tgt := 41) hx hb (by omega) dX5_addRow_34 (by decide) (fun c => absurd c (by omega)) (fun c_34_12 => ?_)
      refine lv_iconst (v := nI 1) hx hb dX5_addRow_37 (by decide) ?_
      refine lv_goto (tgt := 54) hx hb dX5_addRow_38 (by decide) ?_
      refine va_put (D := D) (ci := 5) (v := .int (nI 1)) (ty := .int) (C := RX5) (T := TX5) (N := 12) hx hb hts iX5_addRow_5 tyX5 tyX5_ok nmX5 hown hK hP hD hS 0 rfl rfl 5 (by decide) (hts (.fieldLink RX5 25 "HallSightsModel" "thrown" "I") (List.mem_of_getElem? (i := 1) rfl)) (fun _ h9 => h9) rfl (by decide +kernel) rfl rfl (Nat.le_of_ble_eq_true rfl) dX5_addRow_54 (fun H locs hP hD hS => ?_)
      have hP : va_P D vwCl (MW a cI z (nI ns) zh (nI nl) tx (nI 1) pa rd nu pt wy za) H := hP
      have hD : va_D (kA w0) (MW a cI z (nI ns) zh (nI nl) tx (nI 1) pa rd nu pt wy za) := hD
      refine lv_aload_n hx hb dX5_addRow_57 rfl (lv_at hl 1 rfl) ?_
      refine va_get (D := D) (ci := 5) (v := .int (nI 1)) (C := RX5) (T := TX5) (N := 12) hx hb hts iX5_addRow_5 hown hK hP 0 rfl rfl 5 (by decide) (hts (.fieldLink RX5 25 "HallSightsModel" "thrown" "I") (List.mem_of_getElem? (i := 1) rfl)) (fun _ h9 => h9) rfl dX5_addRow_58 ?_
      refine kx_if_le (tgt := 66) hx hb (by omega) dX5_addRow_61 (by decide) (fun c => absurd c (by omega)) (fun c_61_13 => ?_)
      refine lv_iconst (v := nI 0) hx hb dX5_addRow_64 (by decide) ?_
      have e_14 : (nI 0 : Int32) = (if tAddRow z d0 h0 s0 = 0 then nI (insAt z d0 (nR z)) else nI 0) := by first | rfl | omega | (simp [tAddRow, Int32.not_lt, Int32.not_le, c_4_1, c_11_10]; done) | (simp [tAddRow, Int32.not_lt, Int32.not_le, c_4_1, c_11_10]; omega) | (revert c_4_1 c_11_10; simp +contextual [tAddRow, Int32.not_lt, Int32.not_le]; done) | (revert c_4_1 c_11_10; simp +contextual [tAddRow, Int32.not_lt, Int32.not_le]; omega)
      have ec_z_15 : (z : ZZ) = (if tAddRow z d0 h0 s0 = 0 then insZ z d0 h0 s0 else z) := by first | rfl | omega | (simp [tAddRow, Int32.not_lt, Int32.not_le, c_4_1, c_11_10]; done) | (simp [tAddRow, Int32.not_lt, Int32.not_le, c_4_1, c_11_10]; omega) | (revert c_4_1 c_11_10; simp +contextual [tAddRow, Int32.not_lt, Int32.not_le]; done) | (revert c_4_1 c_11_10; simp +contextual [tAddRow, Int32.not_lt, Int32.not_le]; omega)
      have ec_st_16 : ((nI ns) : Int32) = (nI (if tAddRow z d0 h0 s0 = 0 then saveN ns else ns)) := by first | rfl | omega | (simp [tAddRow, Int32.not_lt, Int32.not_le, c_4_1, c_11_10]; done) | (simp [tAddRow, Int32.not_lt, Int32.not_le, c_4_1, c_11_10]; omega) | (revert c_4_1 c_11_10; simp +contextual [tAddRow, Int32.not_lt, Int32.not_le]; done) | (revert c_4_1 c_11_10; simp +contextual [tAddRow, Int32.not_lt, Int32.not_le]; omega)
      have ec_zh_17 : (zh : ZZ) = (if tAddRow z d0 h0 s0 = 0 then saveH z zh ns else zh) := by first | rfl | omega | (simp [tAddRow, Int32.not_lt, Int32.not_le, c_4_1, c_11_10]; done) | (simp [tAddRow, Int32.not_lt, Int32.not_le, c_4_1, c_11_10]; omega) | (revert c_4_1 c_11_10; simp +contextual [tAddRow, Int32.not_lt, Int32.not_le]; done) | (revert c_4_1 c_11_10; simp +contextual [tAddRow, Int32.not_lt, Int32.not_le]; omega)
      have ec_th_18 : ((nI 1) : Int32) = (nI (tAddRow z d0 h0 s0)) := by first | rfl | omega | (simp [tAddRow, Int32.not_lt, Int32.not_le, c_4_1, c_11_10]; done) | (simp [tAddRow, Int32.not_lt, Int32.not_le, c_4_1, c_11_10]; omega) | (revert c_4_1 c_11_10; simp +contextual [tAddRow, Int32.not_lt, Int32.not_le]; done) | (revert c_4_1 c_11_10; simp +contextual [tAddRow, Int32.not_lt, Int32.not_le]; omega)
      have ew_19 : (MW a cI z (nI ns) zh (nI nl) tx (nI 1) pa rd nu pt wy za : va_W) = (MW a cI (if tAddRow z d0 h0 s0 = 0 then insZ z d0 h0 s0 else z) (nI (if tAddRow z d0 h0 s0 = 0 then saveN ns else ns)) (if tAddRow z d0 h0 s0 = 0 then saveH z zh ns else zh) (nI nl) tx (nI (tAddRow z d0 h0 s0)) pa rd nu pt wy za) := mw_c ec_z_15 ec_st_16 ec_zh_17 rfl rfl ec_th_18 rfl rfl rfl rfl rfl rfl
      rw [ew_19] at hP hD
      subst hw0
      exact kq_iret hx hb hrt hlocks e_14 hP hD hS dX5_addRow_65
    · refine lv_iload_n hx hb dX5_addRow_14 rfl (lv_at hl 3 rfl) ?_
      refine lv_iconst (v := nI 1) hx hb dX5_addRow_15 (by decide) ?_
      refine lv_bipush (v := nI 12) hx hb dX5_addRow_16 (by decide) ?_
      refine kr_S (As := [.int s0, .int (nI 1), .int (nI 12)]) (rest := []) (own := RX5) ⟨hx, hb, hml, hown, hts⟩ (c_X5_within l D cI cC cH cL  s0 (nI 1) (nI 12) ) (va_cwS 3 hts gX5_addRow_X5_within rfl rfl rfl k_X5_withinS ⟨Nat.le_of_ble_eq_true rfl, Nat.le_of_ble_eq_true rfl⟩) (hP.sub (ws' := []) [] rfl) hK rfl hl.1 rfl (Nat.le_of_ble_eq_true rfl) dX5_addRow_18 ⟨Nat.le_of_ble_eq_true rfl, Nat.le_of_ble_eq_true rfl⟩ ?_
      refine kx_if_eqb (tgt := 28) hx hb dX5_addRow_21 (by decide) (fun c_21_20 => ?_) (fun c_21_21 => ?_)
      · refine lv_iconst (v := nI 0) hx hb dX5_addRow_28 (by decide) ?_
        refine lv_istore (lv' := [(4, .int (nI 0)), (0, .ref (a 0)), (1, .int d0), (2, .int h0), (3, .int s0)]) hx hb dX5_addRow_29 hl (by decide) rfl (fun ls hl => ?_)
        refine lv_aload_n hx hb dX5_addRow_31 rfl (lv_at hl 1 rfl) ?_
        refine lv_iload hx hb dX5_addRow_32 (lv_at hl 0 rfl) ?_
        refine kx_if_ne (tgt := 41) hx hb (by omega) dX5_addRow_34 (by decide) (fun c => absurd c (by omega)) (fun c_34_22 => ?_)
        refine lv_iconst (v := nI 1) hx hb dX5_addRow_37 (by decide) ?_
        refine lv_goto (tgt := 54) hx hb dX5_addRow_38 (by decide) ?_
        refine va_put (D := D) (ci := 5) (v := .int (nI 1)) (ty := .int) (C := RX5) (T := TX5) (N := 12) hx hb hts iX5_addRow_5 tyX5 tyX5_ok nmX5 hown hK hP hD hS 0 rfl rfl 5 (by decide) (hts (.fieldLink RX5 25 "HallSightsModel" "thrown" "I") (List.mem_of_getElem? (i := 1) rfl)) (fun _ h9 => h9) rfl (by decide +kernel) rfl rfl (Nat.le_of_ble_eq_true rfl) dX5_addRow_54 (fun H locs hP hD hS => ?_)
        have hP : va_P D vwCl (MW a cI z (nI ns) zh (nI nl) tx (nI 1) pa rd nu pt wy za) H := hP
        have hD : va_D (kA w0) (MW a cI z (nI ns) zh (nI nl) tx (nI 1) pa rd nu pt wy za) := hD
        refine lv_aload_n hx hb dX5_addRow_57 rfl (lv_at hl 1 rfl) ?_
        refine va_get (D := D) (ci := 5) (v := .int (nI 1)) (C := RX5) (T := TX5) (N := 12) hx hb hts iX5_addRow_5 hown hK hP 0 rfl rfl 5 (by decide) (hts (.fieldLink RX5 25 "HallSightsModel" "thrown" "I") (List.mem_of_getElem? (i := 1) rfl)) (fun _ h9 => h9) rfl dX5_addRow_58 ?_
        refine kx_if_le (tgt := 66) hx hb (by omega) dX5_addRow_61 (by decide) (fun c => absurd c (by omega)) (fun c_61_23 => ?_)
        refine lv_iconst (v := nI 0) hx hb dX5_addRow_64 (by decide) ?_
        have e_24 : (nI 0 : Int32) = (if tAddRow z d0 h0 s0 = 0 then nI (insAt z d0 (nR z)) else nI 0) := by first | rfl | omega | (simp [tAddRow, Int32.not_lt, Int32.not_le, c_4_1, c_11_11, c_21_20]; done) | (simp [tAddRow, Int32.not_lt, Int32.not_le, c_4_1, c_11_11, c_21_20]; omega) | (revert c_4_1 c_11_11 c_21_20; simp +contextual [tAddRow, Int32.not_lt, Int32.not_le]; done) | (revert c_4_1 c_11_11 c_21_20; simp +contextual [tAddRow, Int32.not_lt, Int32.not_le]; omega)
        have ec_z_25 : (z : ZZ) = (if tAddRow z d0 h0 s0 = 0 then insZ z d0 h0 s0 else z) := by first | rfl | omega | (simp [tAddRow, Int32.not_lt, Int32.not_le, c_4_1, c_11_11, c_21_20]; done) | (simp [tAddRow, Int32.not_lt, Int32.not_le, c_4_1, c_11_11, c_21_20]; omega) | (revert c_4_1 c_11_11 c_21_20; simp +contextual [tAddRow, Int32.not_lt, Int32.not_le]; done) | (revert c_4_1 c_11_11 c_21_20; simp +contextual [tAddRow, Int32.not_lt, Int32.not_le]; omega)
        have ec_st_26 : ((nI ns) : Int32) = (nI (if tAddRow z d0 h0 s0 = 0 then saveN ns else ns)) := by first | rfl | omega | (simp [tAddRow, Int32.not_lt, Int32.not_le, c_4_1, c_11_11, c_21_20]; done) | (simp [tAddRow, Int32.not_lt, Int32.not_le, c_4_1, c_11_11, c_21_20]; omega) | (revert c_4_1 c_11_11 c_21_20; simp +contextual [tAddRow, Int32.not_lt, Int32.not_le]; done) | (revert c_4_1 c_11_11 c_21_20; simp +contextual [tAddRow, Int32.not_lt, Int32.not_le]; omega)
        have ec_zh_27 : (zh : ZZ) = (if tAddRow z d0 h0 s0 = 0 then saveH z zh ns else zh) := by first | rfl | omega | (simp [tAddRow, Int32.not_lt, Int32.not_le, c_4_1, c_11_11, c_21_20]; done) | (simp [tAddRow, Int32.not_lt, Int32.not_le, c_4_1, c_11_11, c_21_20]; omega) | (revert c_4_1 c_11_11 c_21_20; simp +contextual [tAddRow, Int32.not_lt, Int32.not_le]; done) | (revert c_4_1 c_11_11 c_21_20; simp +contextual [tAddRow, Int32.not_lt, Int32.not_le]; omega)
        have ec_th_28 : ((nI 1) : Int32) = (nI (tAddRow z d0 h0 s0)) := by first | rfl | omega | (simp [tAddRow, Int32.not_lt, Int32.not_le, c_4_1, c_11_11, c_21_20]; done) | (simp [tAddRow, Int32.not_lt, Int32.not_le, c_4_1, c_11_11, c_21_20]; omega) | (revert c_4_1 c_11_11 c_21_20; simp +contextual [tAddRow, Int32.not_lt, Int32.not_le]; done) | (revert c_4_1 c_11_11 c_21_20; simp +contextual [tAddRow, Int32.not_lt, Int32.not_le]; omega)
        have ew_29 : (MW a cI z (nI ns) zh (nI nl) tx (nI 1) pa rd nu pt wy za : va_W) = (MW a cI (if tAddRow z d0 h0 s0 = 0 then insZ z d0 h0 s0 else z) (nI (if tAddRow z d0 h0 s0 = 0 then saveN ns else ns)) (if tAddRow z d0 h0 s0 = 0 then saveH z zh ns else zh) (nI nl) tx (nI (tAddRow z d0 h0 s0)) pa rd nu pt wy za) := mw_c ec_z_25 ec_st_26 ec_zh_27 rfl rfl ec_th_28 rfl rfl rfl rfl rfl rfl
        rw [ew_29] at hP hD
        subst hw0
        exact kq_iret hx hb hrt hlocks e_24 hP hD hS dX5_addRow_65
      · refine lv_iconst (v := nI 1) hx hb dX5_addRow_24 (by decide) ?_
        refine lv_goto (tgt := 29) hx hb dX5_addRow_25 (by decide) ?_
        refine lv_istore (lv' := [(4, .int (nI 1)), (0, .ref (a 0)), (1, .int d0), (2, .int h0), (3, .int s0)]) hx hb dX5_addRow_29 hl (by decide) rfl (fun ls hl => ?_)
        refine lv_aload_n hx hb dX5_addRow_31 rfl (lv_at hl 1 rfl) ?_
        refine lv_iload hx hb dX5_addRow_32 (lv_at hl 0 rfl) ?_
        refine kx_if_ne (tgt := 41) hx hb (by omega) dX5_addRow_34 (by decide) (fun c_34_30 => ?_) (fun c => absurd c (by omega))
        refine lv_aload_n hx hb dX5_addRow_41 rfl (lv_at hl 1 rfl) ?_
        refine lv_iload_n hx hb dX5_addRow_42 rfl (lv_at hl 2 rfl) ?_
        refine kr_V (As := [.int d0]) (rest := [.ref (a 0)]) (C := RX5) (own := RX5) ⟨hx, hb, hml, hown, hts⟩ (c_X5_canAddRow l D cI cC cH cL a z zh tx pa wy (nI ns) (nI nl) th rd nu pt za d0 (by first | assumption | omega)) (cwV 1 hts gX5_addRow_X5_canAddRow rfl rfl rfl k_X5_canAddRow ⟨Nat.le_of_ble_eq_true rfl, Nat.le_of_ble_eq_true rfl⟩) hP hK (va_recv (q := (RX5, TX5, 12)) hK hP (ci := 5) (q0 := 0) rfl rfl) rfl hl.1 rfl (Nat.le_of_ble_eq_true rfl) dX5_addRow_43 ⟨Nat.le_of_ble_eq_true rfl, Nat.le_of_ble_eq_true rfl⟩ ?_
        refine kx_if_eqb (tgt := 53) hx hb dX5_addRow_46 (by decide) (fun c_46_31 => ?_) (fun c_46_32 => ?_)
        · refine lv_iconst (v := nI 2) hx hb dX5_addRow_53 (by decide) ?_
          refine va_put (D := D) (ci := 5) (v := .int (nI 2)) (ty := .int) (C := RX5) (T := TX5) (N := 12) hx hb hts iX5_addRow_5 tyX5 tyX5_ok nmX5 hown hK hP hD hS 0 rfl rfl 5 (by decide) (hts (.fieldLink RX5 25 "HallSightsModel" "thrown" "I") (List.mem_of_getElem? (i := 1) rfl)) (fun _ h9 => h9) rfl (by decide +kernel) rfl rfl (Nat.le_of_ble_eq_true rfl) dX5_addRow_54 (fun H locs hP hD hS => ?_)
          have hP : va_P D vwCl (MW a cI z (nI ns) zh (nI nl) tx (nI 2) pa rd nu pt wy za) H := hP
          have hD : va_D (kA w0) (MW a cI z (nI ns) zh (nI nl) tx (nI 2) pa rd nu pt wy za) := hD
          refine lv_aload_n hx hb dX5_addRow_57 rfl (lv_at hl 1 rfl) ?_
          refine va_get (D := D) (ci := 5) (v := .int (nI 2)) (C := RX5) (T := TX5) (N := 12) hx hb hts iX5_addRow_5 hown hK hP 0 rfl rfl 5 (by decide) (hts (.fieldLink RX5 25 "HallSightsModel" "thrown" "I") (List.mem_of_getElem? (i := 1) rfl)) (fun _ h9 => h9) rfl dX5_addRow_58 ?_
          refine kx_if_le (tgt := 66) hx hb (by omega) dX5_addRow_61 (by decide) (fun c => absurd c (by omega)) (fun c_61_33 => ?_)
          refine lv_iconst (v := nI 0) hx hb dX5_addRow_64 (by decide) ?_
          have e_34 : (nI 0 : Int32) = (if tAddRow z d0 h0 s0 = 0 then nI (insAt z d0 (nR z)) else nI 0) := by first | rfl | omega | (simp [tAddRow, Int32.not_lt, Int32.not_le, c_4_1, c_11_11, c_21_21, c_46_31]; done) | (simp [tAddRow, Int32.not_lt, Int32.not_le, c_4_1, c_11_11, c_21_21, c_46_31]; omega) | (revert c_4_1 c_11_11 c_21_21 c_46_31; simp +contextual [tAddRow, Int32.not_lt, Int32.not_le]; done) | (revert c_4_1 c_11_11 c_21_21 c_46_31; simp +contextual [tAddRow, Int32.not_lt, Int32.not_le]; omega)
          have ec_z_35 : (z : ZZ) = (if tAddRow z d0 h0 s0 = 0 then insZ z d0 h0 s0 else z) := by first | rfl | omega | (simp [tAddRow, Int32.not_lt, Int32.not_le, c_4_1, c_11_11, c_21_21, c_46_31]; done) | (simp [tAddRow, Int32.not_lt, Int32.not_le, c_4_1, c_11_11, c_21_21, c_46_31]; omega) | (revert c_4_1 c_11_11 c_21_21 c_46_31; simp +contextual [tAddRow, Int32.not_lt, Int32.not_le]; done) | (revert c_4_1 c_11_11 c_21_21 c_46_31; simp +contextual [tAddRow, Int32.not_lt, Int32.not_le]; omega)
          have ec_st_36 : ((nI ns) : Int32) = (nI (if tAddRow z d0 h0 s0 = 0 then saveN ns else ns)) := by first | rfl | omega | (simp [tAddRow, Int32.not_lt, Int32.not_le, c_4_1, c_11_11, c_21_21, c_46_31]; done) | (simp [tAddRow, Int32.not_lt, Int32.not_le, c_4_1, c_11_11, c_21_21, c_46_31]; omega) | (revert c_4_1 c_11_11 c_21_21 c_46_31; simp +contextual [tAddRow, Int32.not_lt, Int32.not_le]; done) | (revert c_4_1 c_11_11 c_21_21 c_46_31; simp +contextual [tAddRow, Int32.not_lt, Int32.not_le]; omega)
          have ec_zh_37 : (zh : ZZ) = (if tAddRow z d0 h0 s0 = 0 then saveH z zh ns else zh) := by first | rfl | omega | (simp [tAddRow, Int32.not_lt, Int32.not_le, c_4_1, c_11_11, c_21_21, c_46_31]; done) | (simp [tAddRow, Int32.not_lt, Int32.not_le, c_4_1, c_11_11, c_21_21, c_46_31]; omega) | (revert c_4_1 c_11_11 c_21_21 c_46_31; simp +contextual [tAddRow, Int32.not_lt, Int32.not_le]; done) | (revert c_4_1 c_11_11 c_21_21 c_46_31; simp +contextual [tAddRow, Int32.not_lt, Int32.not_le]; omega)
          have ec_th_38 : ((nI 2) : Int32) = (nI (tAddRow z d0 h0 s0)) := by first | rfl | omega | (simp [tAddRow, Int32.not_lt, Int32.not_le, c_4_1, c_11_11, c_21_21, c_46_31]; done) | (simp [tAddRow, Int32.not_lt, Int32.not_le, c_4_1, c_11_11, c_21_21, c_46_31]; omega) | (revert c_4_1 c_11_11 c_21_21 c_46_31; simp +contextual [tAddRow, Int32.not_lt, Int32.not_le]; done) | (revert c_4_1 c_11_11 c_21_21 c_46_31; simp +contextual [tAddRow, Int32.not_lt, Int32.not_le]; omega)
          have ew_39 : (MW a cI z (nI ns) zh (nI nl) tx (nI 2) pa rd nu pt wy za : va_W) = (MW a cI (if tAddRow z d0 h0 s0 = 0 then insZ z d0 h0 s0 else z) (nI (if tAddRow z d0 h0 s0 = 0 then saveN ns else ns)) (if tAddRow z d0 h0 s0 = 0 then saveH z zh ns else zh) (nI nl) tx (nI (tAddRow z d0 h0 s0)) pa rd nu pt wy za) := mw_c ec_z_35 ec_st_36 ec_zh_37 rfl rfl ec_th_38 rfl rfl rfl rfl rfl rfl
          rw [ew_39] at hP hD
          subst hw0
          exact kq_iret hx hb hrt hlocks e_34 hP hD hS dX5_addRow_65
        · refine lv_iconst (v := nI 0) hx hb dX5_addRow_49 (by decide) ?_
          refine lv_goto (tgt := 54) hx hb dX5_addRow_50 (by decide) ?_
          refine va_put (D := D) (ci := 5) (v := .int (nI 0)) (ty := .int) (C := RX5) (T := TX5) (N := 12) hx hb hts iX5_addRow_5 tyX5 tyX5_ok nmX5 hown hK hP hD hS 0 rfl rfl 5 (by decide) (hts (.fieldLink RX5 25 "HallSightsModel" "thrown" "I") (List.mem_of_getElem? (i := 1) rfl)) (fun _ h9 => h9) rfl (by decide +kernel) rfl rfl (Nat.le_of_ble_eq_true rfl) dX5_addRow_54 (fun H locs hP hD hS => ?_)
          have hP : va_P D vwCl (MW a cI z (nI ns) zh (nI nl) tx (nI 0) pa rd nu pt wy za) H := hP
          have hD : va_D (kA w0) (MW a cI z (nI ns) zh (nI nl) tx (nI 0) pa rd nu pt wy za) := hD
          refine lv_aload_n hx hb dX5_addRow_57 rfl (lv_at hl 1 rfl) ?_
          refine va_get (D := D) (ci := 5) (v := .int (nI 0)) (C := RX5) (T := TX5) (N := 12) hx hb hts iX5_addRow_5 hown hK hP 0 rfl rfl 5 (by decide) (hts (.fieldLink RX5 25 "HallSightsModel" "thrown" "I") (List.mem_of_getElem? (i := 1) rfl)) (fun _ h9 => h9) rfl dX5_addRow_58 ?_
          refine kx_if_le (tgt := 66) hx hb (by omega) dX5_addRow_61 (by decide) (fun c_61_40 => ?_) (fun c => absurd c (by omega))
          have hcan : nR z < 10 := canAdd_lt c_46_32
          refine lv_aload_n hx hb dX5_addRow_66 rfl (lv_at hl 1 rfl) ?_
          refine kw_V (As := []) (rest := []) (C := RX5) (own := RX5) ⟨hx, hb, hml, hown, hts⟩ (c_X5_save l D cI cC cH cL a z zh tx pa wy ns nl (nI 0) rd nu pt za  (by first | assumption | omega)) (cwV 0 hts gX5_addRow_X5_save rfl rfl rfl k_X5_save ⟨Nat.le_of_ble_eq_true rfl, Nat.le_of_ble_eq_true rfl⟩) hP hD hK hS [0, 1, 2, 3, 4, 5] [] rfl rfl (wr := []) rfl (by decide) (by decide) (by decide) (va_recv (q := (RX5, TX5, 12)) hK hP (ci := 5) (q0 := 0) rfl rfl) rfl hl.1 rfl (Nat.le_of_ble_eq_true rfl) dX5_addRow_67 ⟨Nat.le_of_ble_eq_true rfl, Nat.le_of_ble_eq_true rfl⟩ (fun H locs hP hD hS => ?_)
          have hP : va_P D vwCl (MW a cI z (nI (saveN ns)) (saveH z zh ns) (nI nl) tx (nI 0) pa rd nu pt wy za) H := hP
          have hD : va_D (kA w0) (MW a cI z (nI (saveN ns)) (saveH z zh ns) (nI nl) tx (nI 0) pa rd nu pt wy za) := hD
          refine lv_aload_n hx hb dX5_addRow_70 rfl (lv_at hl 1 rfl) ?_
          refine lv_iload_n hx hb dX5_addRow_71 rfl (lv_at hl 2 rfl) ?_
          refine lv_iload_n hx hb dX5_addRow_72 rfl (lv_at hl 3 rfl) ?_
          refine lv_iload_n hx hb dX5_addRow_73 rfl (lv_at hl 4 rfl) ?_
          refine kw_V (As := [.int d0, .int h0, .int s0]) (rest := []) (C := RX5) (own := RX5) ⟨hx, hb, hml, hown, hts⟩ (c_X5_addsRow l D cI cC cH cL a z (saveH z zh ns) tx pa wy (nI (saveN ns)) (nI nl) (nI 0) rd nu pt za d0 h0 s0 (by first | assumption | omega) (by first | assumption | omega)) (cwV 3 hts gX5_addRow_X5_addsRow rfl rfl rfl k_X5_addsRow ⟨Nat.le_of_ble_eq_true rfl, Nat.le_of_ble_eq_true rfl⟩) hP hD hK hS [0, 1, 2, 3, 4, 5] [] rfl rfl (wr := []) rfl (by decide) (by decide) (by decide) (va_recv (q := (RX5, TX5, 12)) hK hP (ci := 5) (q0 := 0) rfl rfl) rfl hl.1 rfl (Nat.le_of_ble_eq_true rfl) dX5_addRow_74 ⟨Nat.le_of_ble_eq_true rfl, Nat.le_of_ble_eq_true rfl⟩ (fun H locs hP hD hS => ?_)
          have hP : va_P D vwCl (MW a cI (insZ z d0 h0 s0) (nI (saveN ns)) (saveH z zh ns) (nI nl) tx (nI 0) pa rd nu pt wy za) H := hP
          have hD : va_D (kA w0) (MW a cI (insZ z d0 h0 s0) (nI (saveN ns)) (saveH z zh ns) (nI nl) tx (nI 0) pa rd nu pt wy za) := hD
          have e_41 : (nI (insAt z d0 (nR z)) : Int32) = (if tAddRow z d0 h0 s0 = 0 then nI (insAt z d0 (nR z)) else nI 0) := by first | rfl | omega | (simp [tAddRow, Int32.not_lt, Int32.not_le, c_4_1, c_11_11, c_21_21, c_46_32]; done) | (simp [tAddRow, Int32.not_lt, Int32.not_le, c_4_1, c_11_11, c_21_21, c_46_32]; omega) | (revert c_4_1 c_11_11 c_21_21 c_46_32; simp +contextual [tAddRow, Int32.not_lt, Int32.not_le]; done) | (revert c_4_1 c_11_11 c_21_21 c_46_32; simp +contextual [tAddRow, Int32.not_lt, Int32.not_le]; omega)
          have ec_z_42 : ((insZ z d0 h0 s0) : ZZ) = (if tAddRow z d0 h0 s0 = 0 then insZ z d0 h0 s0 else z) := by first | rfl | omega | (simp [tAddRow, Int32.not_lt, Int32.not_le, c_4_1, c_11_11, c_21_21, c_46_32]; done) | (simp [tAddRow, Int32.not_lt, Int32.not_le, c_4_1, c_11_11, c_21_21, c_46_32]; omega) | (revert c_4_1 c_11_11 c_21_21 c_46_32; simp +contextual [tAddRow, Int32.not_lt, Int32.not_le]; done) | (revert c_4_1 c_11_11 c_21_21 c_46_32; simp +contextual [tAddRow, Int32.not_lt, Int32.not_le]; omega)
          have ec_st_43 : ((nI (saveN ns)) : Int32) = (nI (if tAddRow z d0 h0 s0 = 0 then saveN ns else ns)) := by first | rfl | omega | (simp [tAddRow, Int32.not_lt, Int32.not_le, c_4_1, c_11_11, c_21_21, c_46_32]; done) | (simp [tAddRow, Int32.not_lt, Int32.not_le, c_4_1, c_11_11, c_21_21, c_46_32]; omega) | (revert c_4_1 c_11_11 c_21_21 c_46_32; simp +contextual [tAddRow, Int32.not_lt, Int32.not_le]; done) | (revert c_4_1 c_11_11 c_21_21 c_46_32; simp +contextual [tAddRow, Int32.not_lt, Int32.not_le]; omega)
          have ec_zh_44 : ((saveH z zh ns) : ZZ) = (if tAddRow z d0 h0 s0 = 0 then saveH z zh ns else zh) := by first | rfl | omega | (simp [tAddRow, Int32.not_lt, Int32.not_le, c_4_1, c_11_11, c_21_21, c_46_32]; done) | (simp [tAddRow, Int32.not_lt, Int32.not_le, c_4_1, c_11_11, c_21_21, c_46_32]; omega) | (revert c_4_1 c_11_11 c_21_21 c_46_32; simp +contextual [tAddRow, Int32.not_lt, Int32.not_le]; done) | (revert c_4_1 c_11_11 c_21_21 c_46_32; simp +contextual [tAddRow, Int32.not_lt, Int32.not_le]; omega)
          have ec_th_45 : ((nI 0) : Int32) = (nI (tAddRow z d0 h0 s0)) := by first | rfl | omega | (simp [tAddRow, Int32.not_lt, Int32.not_le, c_4_1, c_11_11, c_21_21, c_46_32]; done) | (simp [tAddRow, Int32.not_lt, Int32.not_le, c_4_1, c_11_11, c_21_21, c_46_32]; omega) | (revert c_4_1 c_11_11 c_21_21 c_46_32; simp +contextual [tAddRow, Int32.not_lt, Int32.not_le]; done) | (revert c_4_1 c_11_11 c_21_21 c_46_32; simp +contextual [tAddRow, Int32.not_lt, Int32.not_le]; omega)
          have ew_46 : (MW a cI (insZ z d0 h0 s0) (nI (saveN ns)) (saveH z zh ns) (nI nl) tx (nI 0) pa rd nu pt wy za : va_W) = (MW a cI (if tAddRow z d0 h0 s0 = 0 then insZ z d0 h0 s0 else z) (nI (if tAddRow z d0 h0 s0 = 0 then saveN ns else ns)) (if tAddRow z d0 h0 s0 = 0 then saveH z zh ns else zh) (nI nl) tx (nI (tAddRow z d0 h0 s0)) pa rd nu pt wy za) := mw_c ec_z_42 ec_st_43 ec_zh_44 rfl rfl ec_th_45 rfl rfl rfl rfl rfl rfl
          rw [ew_46] at hP hD
          subst hw0
          exact kq_iret hx hb hrt hlocks e_41 hP hD hS dX5_addRow_77
set_option maxRecDepth 20000 in
theorem iX5_removeRow_5 : ∀ w ∈ wsX50, w ∈ wsX5_removeRow := by decide +kernel
set_option maxHeartbeats 4000000 in
set_option maxRecDepth 100000 in
theorem c_X5_removeRow (l : Launch) (D : va_G) (cI cC cH cL : ClassId) (a : Nat → Nat) (z zh tx pa wy : ZZ) (ns nl : Nat) (th rd nu pt : Int32) (za : Int64) (ro : Int32) (hw : WF z) (hn : ns ≤ 6) : Met l yX5_removeRow wsX5_removeRow ({ frames := 2, cells := 0, slots := 0, locals := 44 }) (kw [.ref (a 0), .int ro] D (MW a cI z (nI ns) zh (nI nl) tx th pa rd nu pt wy za) (kT cI cC cH cL)) (kq D (MW a cI z (nI ns) zh (nI nl) tx th pa rd nu pt wy za) (MW a cI (if tRow z ro = 0 then delZ z (cl ro) else z) (nI (if tRow z ro = 0 then saveN ns else ns)) (if tRow z ro = 0 then saveH z zh ns else zh) (nI nl) tx (nI (tRow z ro)) pa rd nu pt wy za) (.returned (some (.int (if tRow z ro = 0 then nI (seatsAll (delZ z (cl ro))) else nI 0))))) 0 0 (kA (MW a cI z (nI ns) zh (nI nl) tx th pa rd nu pt wy za)) := by
  refine Met.ofW (cc := cX5_removeRow) (maxL := 3) (ret := (some .int)) (by decide) rfl ?_
  intro p e s m args below meth c s₁ B hml hv
  obtain ⟨rfl, hP, hK, hD0⟩ := hv
  have hx := B.exec
  have hb := B.bytes
  have hrt := B.returns
  have hts := atoms_spec (ws := wsX5_removeRow) B.pre
  have hown : s.vm.findClass RX5 = some m.cls := findClass_of_methodNamed B.named
  have hlocks := B.notSynchronized
  have hl := lv_entry ([.ref (a 0), .int ro]) (n := 3) (Nat.le_of_ble_eq_true rfl)
  rw [lg_entry_eq]
  generalize (lg_sl ([.ref (a 0), .int ro]) ++ List.replicate (3 - (lg_sl ([.ref (a 0), .int ro])).length) Slot.unset).toArray = ls at hl ⊢
  have hl : lv_has ls 3 [(0, .ref (a 0)), (1, .int ro)] := hl
  have hD := kA_self hD0
  obtain ⟨w0, hw0⟩ : ∃ w : va_W, w = MW a cI z (nI ns) zh (nI nl) tx th pa rd nu pt wy za := ⟨_, rfl⟩
  have hD : va_D (kA w0) (MW a cI z (nI ns) zh (nI nl) tx th pa rd nu pt wy za) := by rw [hw0]; exact hD
  have hS : va_S (kA w0) s.heap s.heap [] := va_S.rf
  rw [show kA (MW a cI z (nI ns) zh (nI nl) tx th pa rd nu pt wy za) = kA w0 from by rw [hw0], show kq D (MW a cI z (nI ns) zh (nI nl) tx th pa rd nu pt wy za) = kq D w0 from by rw [hw0]]
  have hP : va_P D vwCl (MW a cI z (nI ns) zh (nI nl) tx th pa rd nu pt wy za) s.heap := hP
  have hR10 := wf_R10 hw
  have hC4 := wf_C4 hw
  refine lv_aload_n hx hb dX5_removeRow_0 rfl (lv_at hl 0 rfl) ?_
  refine lv_aload_n hx hb dX5_removeRow_1 rfl (lv_at hl 0 rfl) ?_
  refine lv_iload_n hx hb dX5_removeRow_2 rfl (lv_at hl 1 rfl) ?_
  refine kr_V (As := [.int ro]) (rest := [.ref (a 0)]) (C := RX5) (own := RX5) ⟨hx, hb, hml, hown, hts⟩ (c_X5_isRow l D cI cC cH cL a z zh tx pa wy (nI ns) (nI nl) th rd nu pt za ro (by first | assumption | omega)) (cwV 1 hts gX5_removeRow_X5_isRow rfl rfl rfl k_X5_isRow ⟨Nat.le_of_ble_eq_true rfl, Nat.le_of_ble_eq_true rfl⟩) hP hK (va_recv (q := (RX5, TX5, 12)) hK hP (ci := 5) (q0 := 0) rfl rfl) rfl hl.1 rfl (Nat.le_of_ble_eq_true rfl) dX5_removeRow_3 ⟨Nat.le_of_ble_eq_true rfl, Nat.le_of_ble_eq_true rfl⟩ ?_
  refine kx_if_eqb (tgt := 13) hx hb dX5_removeRow_6 (by decide) (fun c_6_0 => ?_) (fun c_6_1 => ?_)
  · refine lv_iconst (v := nI 1) hx hb dX5_removeRow_13 (by decide) ?_
    refine va_put (D := D) (ci := 5) (v := .int (nI 1)) (ty := .int) (C := RX5) (T := TX5) (N := 12) hx hb hts iX5_removeRow_5 tyX5 tyX5_ok nmX5 hown hK hP hD hS 0 rfl rfl 5 (by decide) (hts (.fieldLink RX5 25 "HallSightsModel" "thrown" "I") (List.mem_of_getElem? (i := 1) rfl)) (fun _ h9 => h9) rfl (by decide +kernel) rfl rfl (Nat.le_of_ble_eq_true rfl) dX5_removeRow_14 (fun H locs hP hD hS => ?_)
    have hP : va_P D vwCl (MW a cI z (nI ns) zh (nI nl) tx (nI 1) pa rd nu pt wy za) H := hP
    have hD : va_D (kA w0) (MW a cI z (nI ns) zh (nI nl) tx (nI 1) pa rd nu pt wy za) := hD
    refine lv_aload_n hx hb dX5_removeRow_17 rfl (lv_at hl 0 rfl) ?_
    refine va_get (D := D) (ci := 5) (v := .int (nI 1)) (C := RX5) (T := TX5) (N := 12) hx hb hts iX5_removeRow_5 hown hK hP 0 rfl rfl 5 (by decide) (hts (.fieldLink RX5 25 "HallSightsModel" "thrown" "I") (List.mem_of_getElem? (i := 1) rfl)) (fun _ h9 => h9) rfl dX5_removeRow_18 ?_
    refine kx_if_le (tgt := 26) hx hb (by omega) dX5_removeRow_21 (by decide) (fun c => absurd c (by omega)) (fun c_21_2 => ?_)
    refine lv_iconst (v := nI 0) hx hb dX5_removeRow_24 (by decide) ?_
    have e_3 : (nI 0 : Int32) = (if tRow z ro = 0 then nI (seatsAll (delZ z (cl ro))) else nI 0) := by first | rfl | omega | (simp [tRow, delZ, Int32.not_lt, Int32.not_le, c_6_0]; done) | (simp [tRow, delZ, Int32.not_lt, Int32.not_le, c_6_0]; omega) | (revert c_6_0; simp +contextual [tRow, delZ, Int32.not_lt, Int32.not_le]; done) | (revert c_6_0; simp +contextual [tRow, delZ, Int32.not_lt, Int32.not_le]; omega)
    have ec_z_4 : (z : ZZ) = (if tRow z ro = 0 then delZ z (cl ro) else z) := by first | rfl | omega | (simp [tRow, delZ, Int32.not_lt, Int32.not_le, c_6_0]; done) | (simp [tRow, delZ, Int32.not_lt, Int32.not_le, c_6_0]; omega) | (revert c_6_0; simp +contextual [tRow, delZ, Int32.not_lt, Int32.not_le]; done) | (revert c_6_0; simp +contextual [tRow, delZ, Int32.not_lt, Int32.not_le]; omega)
    have ec_st_5 : ((nI ns) : Int32) = (nI (if tRow z ro = 0 then saveN ns else ns)) := by first | rfl | omega | (simp [tRow, delZ, Int32.not_lt, Int32.not_le, c_6_0]; done) | (simp [tRow, delZ, Int32.not_lt, Int32.not_le, c_6_0]; omega) | (revert c_6_0; simp +contextual [tRow, delZ, Int32.not_lt, Int32.not_le]; done) | (revert c_6_0; simp +contextual [tRow, delZ, Int32.not_lt, Int32.not_le]; omega)
    have ec_zh_6 : (zh : ZZ) = (if tRow z ro = 0 then saveH z zh ns else zh) := by first | rfl | omega | (simp [tRow, delZ, Int32.not_lt, Int32.not_le, c_6_0]; done) | (simp [tRow, delZ, Int32.not_lt, Int32.not_le, c_6_0]; omega) | (revert c_6_0; simp +contextual [tRow, delZ, Int32.not_lt, Int32.not_le]; done) | (revert c_6_0; simp +contextual [tRow, delZ, Int32.not_lt, Int32.not_le]; omega)
    have ec_th_7 : ((nI 1) : Int32) = (nI (tRow z ro)) := by first | rfl | omega | (simp [tRow, delZ, Int32.not_lt, Int32.not_le, c_6_0]; done) | (simp [tRow, delZ, Int32.not_lt, Int32.not_le, c_6_0]; omega) | (revert c_6_0; simp +contextual [tRow, delZ, Int32.not_lt, Int32.not_le]; done) | (revert c_6_0; simp +contextual [tRow, delZ, Int32.not_lt, Int32.not_le]; omega)
    have ew_8 : (MW a cI z (nI ns) zh (nI nl) tx (nI 1) pa rd nu pt wy za : va_W) = (MW a cI (if tRow z ro = 0 then delZ z (cl ro) else z) (nI (if tRow z ro = 0 then saveN ns else ns)) (if tRow z ro = 0 then saveH z zh ns else zh) (nI nl) tx (nI (tRow z ro)) pa rd nu pt wy za) := mw_c ec_z_4 ec_st_5 ec_zh_6 rfl rfl ec_th_7 rfl rfl rfl rfl rfl rfl
    rw [ew_8] at hP hD
    subst hw0
    exact kq_iret hx hb hrt hlocks e_3 hP hD hS dX5_removeRow_25
  · obtain ⟨r0, hr0, rfl⟩ := isRow_out hw c_6_1
    have hc_r0 : cl (nI r0) = r0 := cl_nI (show r0 < 2 ^ 31 by omega)
    refine lv_iconst (v := nI 0) hx hb dX5_removeRow_9 (by decide) ?_
    refine lv_goto (tgt := 14) hx hb dX5_removeRow_10 (by decide) ?_
    refine va_put (D := D) (ci := 5) (v := .int (nI 0)) (ty := .int) (C := RX5) (T := TX5) (N := 12) hx hb hts iX5_removeRow_5 tyX5 tyX5_ok nmX5 hown hK hP hD hS 0 rfl rfl 5 (by decide) (hts (.fieldLink RX5 25 "HallSightsModel" "thrown" "I") (List.mem_of_getElem? (i := 1) rfl)) (fun _ h9 => h9) rfl (by decide +kernel) rfl rfl (Nat.le_of_ble_eq_true rfl) dX5_removeRow_14 (fun H locs hP hD hS => ?_)
    have hP : va_P D vwCl (MW a cI z (nI ns) zh (nI nl) tx (nI 0) pa rd nu pt wy za) H := hP
    have hD : va_D (kA w0) (MW a cI z (nI ns) zh (nI nl) tx (nI 0) pa rd nu pt wy za) := hD
    refine lv_aload_n hx hb dX5_removeRow_17 rfl (lv_at hl 0 rfl) ?_
    refine va_get (D := D) (ci := 5) (v := .int (nI 0)) (C := RX5) (T := TX5) (N := 12) hx hb hts iX5_removeRow_5 hown hK hP 0 rfl rfl 5 (by decide) (hts (.fieldLink RX5 25 "HallSightsModel" "thrown" "I") (List.mem_of_getElem? (i := 1) rfl)) (fun _ h9 => h9) rfl dX5_removeRow_18 ?_
    refine kx_if_le (tgt := 26) hx hb (by omega) dX5_removeRow_21 (by decide) (fun c_21_9 => ?_) (fun c => absurd c (by omega))
    refine lv_aload_n hx hb dX5_removeRow_26 rfl (lv_at hl 0 rfl) ?_
    refine kw_V (As := []) (rest := []) (C := RX5) (own := RX5) ⟨hx, hb, hml, hown, hts⟩ (c_X5_save l D cI cC cH cL a z zh tx pa wy ns nl (nI 0) rd nu pt za  (by first | assumption | omega)) (cwV 0 hts gX5_removeRow_X5_save rfl rfl rfl k_X5_save ⟨Nat.le_of_ble_eq_true rfl, Nat.le_of_ble_eq_true rfl⟩) hP hD hK hS [0, 1, 2, 3, 4, 5] [] rfl rfl (wr := []) rfl (by decide) (by decide) (by decide) (va_recv (q := (RX5, TX5, 12)) hK hP (ci := 5) (q0 := 0) rfl rfl) rfl hl.1 rfl (Nat.le_of_ble_eq_true rfl) dX5_removeRow_27 ⟨Nat.le_of_ble_eq_true rfl, Nat.le_of_ble_eq_true rfl⟩ (fun H locs hP hD hS => ?_)
    have hP : va_P D vwCl (MW a cI z (nI (saveN ns)) (saveH z zh ns) (nI nl) tx (nI 0) pa rd nu pt wy za) H := hP
    have hD : va_D (kA w0) (MW a cI z (nI (saveN ns)) (saveH z zh ns) (nI nl) tx (nI 0) pa rd nu pt wy za) := hD
    refine lv_aload_n hx hb dX5_removeRow_30 rfl (lv_at hl 0 rfl) ?_
    refine va_get (D := D) (ci := 5) (v := .ref (a 1)) (C := RX5) (T := TX5) (N := 12) hx hb hts iX5_removeRow_5 hown hK hP 0 rfl rfl 0 (by decide) (hts (.fieldLink RX5 7 "HallSightsModel" "z" "[I") (List.mem_of_getElem? (i := 2) rfl)) (fun _ h9 => h9) rfl dX5_removeRow_31 ?_
    refine lv_iconst (v := nI 3) hx hb dX5_removeRow_34 (by decide) ?_
    refine lv_dup2_11 hx hb dX5_removeRow_35 rfl rfl ?_
    refine kx_iald hx hb hK hP 1 0 rfl rfl (by omega) (by decide) dX5_removeRow_36 ?_
    refine kx_top (wf_R hw) ?_
    refine lv_iconst (v := nI 1) hx hb dX5_removeRow_37 (by decide) ?_
    refine kx_isub hx hb (by omega) dX5_removeRow_38 ?_
    refine kx_iast hx hb hK hP hD hS 1 0 rfl rfl (by omega) (by decide) dX5_removeRow_39 (fun H locs hP hD hS => ?_)
    have hP : va_P D vwCl (MW a cI (upd z 3 (nI ((nR z) - 1))) (nI (saveN ns)) (saveH z zh ns) (nI nl) tx (nI 0) pa rd nu pt wy za) H := hP
    have hD : va_D (kA w0) (MW a cI (upd z 3 (nI ((nR z) - 1))) (nI (saveN ns)) (saveH z zh ns) (nI nl) tx (nI 0) pa rd nu pt wy za) := hD
    refine lv_iconst (v := nI 5) hx hb dX5_removeRow_40 (by decide) ?_
    refine lv_iconst (v := nI 4) hx hb dX5_removeRow_41 (by decide) ?_
    refine lv_iload_n hx hb dX5_removeRow_42 rfl (lv_at hl 1 rfl) ?_
    refine kx_imul hx hb dX5_removeRow_43 ?_
    refine kx_iadd hx hb dX5_removeRow_44 ?_
    refine lv_istore_n (lv' := [(2, .int (nI (5 + (4 * r0)))), (0, .ref (a 0)), (1, .int (nI r0))]) hx hb dX5_removeRow_45 rfl hl (by decide) rfl (fun ls hl => ?_)
    have e46_10 : (5 + (4 * r0) : Nat) = ((5 + 4 * r0)) := by first | rfl | omega | (simp [tRow, delZ, Int32.not_lt, Int32.not_le, c_6_1, hc_r0]; done) | (simp [tRow, delZ, Int32.not_lt, Int32.not_le, c_6_1, hc_r0]; omega) | (revert c_6_1 hc_r0; simp +contextual [tRow, delZ, Int32.not_lt, Int32.not_le]; done) | (revert c_6_1 hc_r0; simp +contextual [tRow, delZ, Int32.not_lt, Int32.not_le]; omega)
    have hl46_11 : lv_has ls 3 [(0, .ref (a 0)), (1, .int (nI r0)), (2, .int (nI (5 + 4 * r0)))] := lv_eqv (l1 := [(0, .ref (a 0)), (1, .int (nI r0)), (2, .int (nI (5 + (4 * r0))))]) (lv_sub hl [1, 2, 0] rfl) (lv_ce rfl (lv_ce rfl (lv_ce (congrArg (fun x => Value.int (nI x)) e46_10) rfl)))
    have ec_z_12 : ((upd z 3 (nI ((nR z) - 1))) : ZZ) = (delS z r0 (5 + 4 * r0)) := by funext jj; simp only [upd, delS]; (repeat' split) <;> first | rfl | omega | (exfalso; omega) | (congr 1; omega)
    have ew_13 : (MW a cI (upd z 3 (nI ((nR z) - 1))) (nI (saveN ns)) (saveH z zh ns) (nI nl) tx (nI 0) pa rd nu pt wy za : va_W) = (MW a cI (delS z r0 (5 + 4 * r0)) (nI (saveN ns)) (saveH z zh ns) (nI nl) tx (nI 0) pa rd nu pt wy za) := mw_c ec_z_12 rfl rfl rfl rfl rfl rfl rfl rfl rfl rfl rfl
    rw [ew_13] at hP hD
    refine kx_upW (fun k H locs ls => (va_P D vwCl (MW a cI (delS z r0 k) (nI (saveN ns)) (saveH z zh ns) (nI nl) tx (nI 0) pa rd nu pt wy za) H ∧ va_D (kA w0) (MW a cI (delS z r0 k) (nI (saveN ns)) (saveH z zh ns) (nI nl) tx (nI 0) pa rd nu pt wy za) ∧ va_S (kA w0) s.heap H locs) ∧ lv_has ls 3 [(0, .ref (a 0)), (1, .int (nI r0)), (2, .int (nI k))]) (5 + 4 * r0) (5 + 4 * (nR z - 1)) (by omega) _ _ ls ⟨⟨hP, hD, hS⟩, hl46_11⟩ ?_
    clear hP hD hS
    intro ik H locs ls hikl hikh hp ih46
    obtain ⟨⟨hP, hD, hS⟩, hp⟩ := hp
    have hl := hp
    refine lv_iload_n hx hb dX5_removeRow_46 rfl (lv_at hl 2 rfl) ?_
    refine lv_iconst (v := nI 5) hx hb dX5_removeRow_47 (by decide) ?_
    refine lv_iconst (v := nI 4) hx hb dX5_removeRow_48 (by decide) ?_
    refine lv_aload_n hx hb dX5_removeRow_49 rfl (lv_at hl 0 rfl) ?_
    refine va_get (D := D) (ci := 5) (v := .ref (a 1)) (C := RX5) (T := TX5) (N := 12) hx hb hts iX5_removeRow_5 hown hK hP 0 rfl rfl 0 (by decide) (hts (.fieldLink RX5 7 "HallSightsModel" "z" "[I") (List.mem_of_getElem? (i := 2) rfl)) (fun _ h9 => h9) rfl dX5_removeRow_50 ?_
    refine lv_iconst (v := nI 3) hx hb dX5_removeRow_53 (by decide) ?_
    refine kx_iald hx hb hK hP 1 0 rfl rfl (by omega) (by decide) dX5_removeRow_54 ?_
    refine kx_top (show ((delS z r0 ik) 3 : Int32) = nI (nR z - 1) from by (unfold delS; rw [if_pos rfl])) ?_
    refine kx_imul hx hb dX5_removeRow_55 ?_
    refine kx_iadd hx hb dX5_removeRow_56 ?_
    refine kx_icmp_ge (tgt := 80) hx hb (by omega) (by omega) dX5_removeRow_57 (by decide) (fun c_57_14 => ?_) (fun c_57_15 => ?_)
    · have hq16 : 5 + 4 * (nR z - 1) = ik := by omega
      subst hq16
      refine lv_aload_n hx hb dX5_removeRow_80 rfl (lv_at hl 0 rfl) ?_
      refine kr_V (As := []) (rest := []) (C := RX5) (own := RX5) ⟨hx, hb, hml, hown, hts⟩ (c_X5_allSeats l D cI cC cH cL a (delS z r0 (5 + 4 * (nR z - 1))) (saveH z zh ns) tx pa wy (nI (saveN ns)) (nI nl) (nI 0) rd nu pt za  (by exact wf_del hw (by omega))) (cwV 0 hts gX5_removeRow_X5_allSeats rfl rfl rfl k_X5_allSeats ⟨Nat.le_of_ble_eq_true rfl, Nat.le_of_ble_eq_true rfl⟩) hP hK (va_recv (q := (RX5, TX5, 12)) hK hP (ci := 5) (q0 := 0) rfl rfl) rfl hl.1 rfl (Nat.le_of_ble_eq_true rfl) dX5_removeRow_81 ⟨Nat.le_of_ble_eq_true rfl, Nat.le_of_ble_eq_true rfl⟩ ?_
      have e_17 : (nI (seatsAll (delS z r0 (5 + 4 * (nR z - 1)))) : Int32) = (if tRow z (nI r0) = 0 then nI (seatsAll (delZ z (cl (nI r0)))) else nI 0) := by first | rfl | omega | (simp [tRow, delZ, Int32.not_lt, Int32.not_le, c_6_1, hc_r0, c_57_14, Nat.not_lt.mpr c_57_14]; done) | (simp [tRow, delZ, Int32.not_lt, Int32.not_le, c_6_1, hc_r0, c_57_14, Nat.not_lt.mpr c_57_14]; omega) | (revert c_6_1 hc_r0 c_57_14; simp +contextual [tRow, delZ, Int32.not_lt, Int32.not_le]; done) | (revert c_6_1 hc_r0 c_57_14; simp +contextual [tRow, delZ, Int32.not_lt, Int32.not_le]; omega)
      have ec_z_18 : ((delS z r0 (5 + 4 * (nR z - 1))) : ZZ) = (if tRow z (nI r0) = 0 then delZ z (cl (nI r0)) else z) := by first | rfl | omega | (simp [tRow, delZ, Int32.not_lt, Int32.not_le, c_6_1, hc_r0, c_57_14, Nat.not_lt.mpr c_57_14]; done) | (simp [tRow, delZ, Int32.not_lt, Int32.not_le, c_6_1, hc_r0, c_57_14, Nat.not_lt.mpr c_57_14]; omega) | (revert c_6_1 hc_r0 c_57_14; simp +contextual [tRow, delZ, Int32.not_lt, Int32.not_le]; done) | (revert c_6_1 hc_r0 c_57_14; simp +contextual [tRow, delZ, Int32.not_lt, Int32.not_le]; omega)
      have ec_st_19 : ((nI (saveN ns)) : Int32) = (nI (if tRow z (nI r0) = 0 then saveN ns else ns)) := by first | rfl | omega | (simp [tRow, delZ, Int32.not_lt, Int32.not_le, c_6_1, hc_r0, c_57_14, Nat.not_lt.mpr c_57_14]; done) | (simp [tRow, delZ, Int32.not_lt, Int32.not_le, c_6_1, hc_r0, c_57_14, Nat.not_lt.mpr c_57_14]; omega) | (revert c_6_1 hc_r0 c_57_14; simp +contextual [tRow, delZ, Int32.not_lt, Int32.not_le]; done) | (revert c_6_1 hc_r0 c_57_14; simp +contextual [tRow, delZ, Int32.not_lt, Int32.not_le]; omega)
      have ec_zh_20 : ((saveH z zh ns) : ZZ) = (if tRow z (nI r0) = 0 then saveH z zh ns else zh) := by first | rfl | omega | (simp [tRow, delZ, Int32.not_lt, Int32.not_le, c_6_1, hc_r0, c_57_14, Nat.not_lt.mpr c_57_14]; done) | (simp [tRow, delZ, Int32.not_lt, Int32.not_le, c_6_1, hc_r0, c_57_14, Nat.not_lt.mpr c_57_14]; omega) | (revert c_6_1 hc_r0 c_57_14; simp +contextual [tRow, delZ, Int32.not_lt, Int32.not_le]; done) | (revert c_6_1 hc_r0 c_57_14; simp +contextual [tRow, delZ, Int32.not_lt, Int32.not_le]; omega)
      have ec_th_21 : ((nI 0) : Int32) = (nI (tRow z (nI r0))) := by first | rfl | omega | (simp [tRow, delZ, Int32.not_lt, Int32.not_le, c_6_1, hc_r0, c_57_14, Nat.not_lt.mpr c_57_14]; done) | (simp [tRow, delZ, Int32.not_lt, Int32.not_le, c_6_1, hc_r0, c_57_14, Nat.not_lt.mpr c_57_14]; omega) | (revert c_6_1 hc_r0 c_57_14; simp +contextual [tRow, delZ, Int32.not_lt, Int32.not_le]; done) | (revert c_6_1 hc_r0 c_57_14; simp +contextual [tRow, delZ, Int32.not_lt, Int32.not_le]; omega)
      have ew_22 : (MW a cI (delS z r0 (5 + 4 * (nR z - 1))) (nI (saveN ns)) (saveH z zh ns) (nI nl) tx (nI 0) pa rd nu pt wy za : va_W) = (MW a cI (if tRow z (nI r0) = 0 then delZ z (cl (nI r0)) else z) (nI (if tRow z (nI r0) = 0 then saveN ns else ns)) (if tRow z (nI r0) = 0 then saveH z zh ns else zh) (nI nl) tx (nI (tRow z (nI r0))) pa rd nu pt wy za) := mw_c ec_z_18 ec_st_19 ec_zh_20 rfl rfl ec_th_21 rfl rfl rfl rfl rfl rfl
      rw [ew_22] at hP hD
      subst hw0
      exact kq_iret hx hb hrt hlocks e_17 hP hD hS dX5_removeRow_84
    · refine lv_aload_n hx hb dX5_removeRow_60 rfl (lv_at hl 0 rfl) ?_
      refine va_get (D := D) (ci := 5) (v := .ref (a 1)) (C := RX5) (T := TX5) (N := 12) hx hb hts iX5_removeRow_5 hown hK hP 0 rfl rfl 0 (by decide) (hts (.fieldLink RX5 7 "HallSightsModel" "z" "[I") (List.mem_of_getElem? (i := 2) rfl)) (fun _ h9 => h9) rfl dX5_removeRow_61 ?_
      refine lv_iload_n hx hb dX5_removeRow_64 rfl (lv_at hl 2 rfl) ?_
      refine lv_aload_n hx hb dX5_removeRow_65 rfl (lv_at hl 0 rfl) ?_
      refine va_get (D := D) (ci := 5) (v := .ref (a 1)) (C := RX5) (T := TX5) (N := 12) hx hb hts iX5_removeRow_5 hown hK hP 0 rfl rfl 0 (by decide) (hts (.fieldLink RX5 7 "HallSightsModel" "z" "[I") (List.mem_of_getElem? (i := 2) rfl)) (fun _ h9 => h9) rfl dX5_removeRow_66 ?_
      refine lv_iload_n hx hb dX5_removeRow_69 rfl (lv_at hl 2 rfl) ?_
      refine lv_iconst (v := nI 4) hx hb dX5_removeRow_70 (by decide) ?_
      refine kx_iadd hx hb dX5_removeRow_71 ?_
      refine kx_iald hx hb hK hP 1 0 rfl rfl (by omega) (by decide) dX5_removeRow_72 ?_
      refine kx_iast hx hb hK hP hD hS 1 0 rfl rfl (by omega) (by decide) dX5_removeRow_73 (fun H locs hP hD hS => ?_)
      have hP : va_P D vwCl (MW a cI (upd (delS z r0 ik) ik ((delS z r0 ik) (ik + 4))) (nI (saveN ns)) (saveH z zh ns) (nI nl) tx (nI 0) pa rd nu pt wy za) H := hP
      have hD : va_D (kA w0) (MW a cI (upd (delS z r0 ik) ik ((delS z r0 ik) (ik + 4))) (nI (saveN ns)) (saveH z zh ns) (nI nl) tx (nI 0) pa rd nu pt wy za) := hD
      refine lv_iinc (v := nI (ik + 1)) (lv' := [(2, .int (nI (ik + 1))), (0, .ref (a 0)), (1, .int (nI r0))]) hx hb dX5_removeRow_74 hl (k := 2) rfl (kx_inc 1) (by decide) rfl (fun ls hl => ?_)
      refine lv_goto (tgt := 46) hx hb dX5_removeRow_77 (by decide) ?_
      have e46_23 : (ik + 1 : Nat) = ((ik + 1)) := by first | rfl | omega | (simp [tRow, delZ, Int32.not_lt, Int32.not_le, c_6_1, hc_r0, c_57_15, Nat.not_le.mpr c_57_15]; done) | (simp [tRow, delZ, Int32.not_lt, Int32.not_le, c_6_1, hc_r0, c_57_15, Nat.not_le.mpr c_57_15]; omega) | (revert c_6_1 hc_r0 c_57_15; simp +contextual [tRow, delZ, Int32.not_lt, Int32.not_le]; done) | (revert c_6_1 hc_r0 c_57_15; simp +contextual [tRow, delZ, Int32.not_lt, Int32.not_le]; omega)
      have hl46_24 : lv_has ls 3 [(0, .ref (a 0)), (1, .int (nI r0)), (2, .int (nI (ik + 1)))] := lv_eqv (l1 := [(0, .ref (a 0)), (1, .int (nI r0)), (2, .int (nI (ik + 1)))]) (lv_sub hl [1, 2, 0] rfl) (lv_ce rfl (lv_ce rfl (lv_ce (congrArg (fun x => Value.int (nI x)) e46_23) rfl)))
      have ec_z_25 : ((upd (delS z r0 ik) ik ((delS z r0 ik) (ik + 4))) : ZZ) = (delS z r0 (ik + 1)) := by funext jj; simp only [upd, delS]; (repeat' split) <;> first | rfl | omega | (exfalso; omega) | (congr 1; omega)
      have ew_26 : (MW a cI (upd (delS z r0 ik) ik ((delS z r0 ik) (ik + 4))) (nI (saveN ns)) (saveH z zh ns) (nI nl) tx (nI 0) pa rd nu pt wy za : va_W) = (MW a cI (delS z r0 (ik + 1)) (nI (saveN ns)) (saveH z zh ns) (nI nl) tx (nI 0) pa rd nu pt wy za) := mw_c ec_z_25 rfl rfl rfl rfl rfl rfl rfl rfl rfl rfl rfl
      rw [ew_26] at hP hD
      exact ih46 _ _ _ (by omega) ⟨⟨hP, hD, hS⟩, hl46_24⟩
set_option maxRecDepth 20000 in
theorem iX5_lift_5 : ∀ w ∈ wsX50, w ∈ wsX5_lift := by decide +kernel
set_option maxHeartbeats 4000000 in
set_option maxRecDepth 100000 in
theorem c_X5_lift (l : Launch) (D : va_G) (cI cC cH cL : ClassId) (a : Nat → Nat) (z zh tx pa wy : ZZ) (ns nl : Nat) (th rd nu pt : Int32) (za : Int64) (ro : Int32) (h0 : Int32) (hw : WF z) (hn : ns ≤ 6) : Met l yX5_lift wsX5_lift ({ frames := 2, cells := 0, slots := 0, locals := 43 }) (kw [.ref (a 0), .int ro, .int h0] D (MW a cI z (nI ns) zh (nI nl) tx th pa rd nu pt wy za) (kT cI cC cH cL)) (kq D (MW a cI z (nI ns) zh (nI nl) tx th pa rd nu pt wy za) (MW a cI (if tLift z ro h0 = 0 then liftZ z (cl ro) h0 else z) (nI (if tLift z ro h0 = 0 then saveN ns else ns)) (if tLift z ro h0 = 0 then saveH z zh ns else zh) (nI nl) tx (nI (tLift z ro h0)) pa rd nu pt wy za) (.returned (some (.int (if tLift z ro h0 = 0 then z (5 + 4 * (cl ro) + 1) else nI 0))))) 0 0 (kA (MW a cI z (nI ns) zh (nI nl) tx th pa rd nu pt wy za)) := by
  refine Met.ofW (cc := cX5_lift) (maxL := 4) (ret := (some .int)) (by decide) rfl ?_
  intro p e s m args below meth c s₁ B hml hv
  obtain ⟨rfl, hP, hK, hD0⟩ := hv
  have hx := B.exec
  have hb := B.bytes
  have hrt := B.returns
  have hts := atoms_spec (ws := wsX5_lift) B.pre
  have hown : s.vm.findClass RX5 = some m.cls := findClass_of_methodNamed B.named
  have hlocks := B.notSynchronized
  have hl := lv_entry ([.ref (a 0), .int ro, .int h0]) (n := 4) (Nat.le_of_ble_eq_true rfl)
  rw [lg_entry_eq]
  generalize (lg_sl ([.ref (a 0), .int ro, .int h0]) ++ List.replicate (4 - (lg_sl ([.ref (a 0), .int ro, .int h0])).length) Slot.unset).toArray = ls at hl ⊢
  have hl : lv_has ls 4 [(0, .ref (a 0)), (1, .int ro), (2, .int h0)] := hl
  have hD := kA_self hD0
  obtain ⟨w0, hw0⟩ : ∃ w : va_W, w = MW a cI z (nI ns) zh (nI nl) tx th pa rd nu pt wy za := ⟨_, rfl⟩
  have hD : va_D (kA w0) (MW a cI z (nI ns) zh (nI nl) tx th pa rd nu pt wy za) := by rw [hw0]; exact hD
  have hS : va_S (kA w0) s.heap s.heap [] := va_S.rf
  rw [show kA (MW a cI z (nI ns) zh (nI nl) tx th pa rd nu pt wy za) = kA w0 from by rw [hw0], show kq D (MW a cI z (nI ns) zh (nI nl) tx th pa rd nu pt wy za) = kq D w0 from by rw [hw0]]
  have hP : va_P D vwCl (MW a cI z (nI ns) zh (nI nl) tx th pa rd nu pt wy za) s.heap := hP
  have hR10 := wf_R10 hw
  have hC4 := wf_C4 hw
  refine lv_aload_n hx hb dX5_lift_0 rfl (lv_at hl 0 rfl) ?_
  refine lv_aload_n hx hb dX5_lift_1 rfl (lv_at hl 0 rfl) ?_
  refine lv_iload_n hx hb dX5_lift_2 rfl (lv_at hl 1 rfl) ?_
  refine kr_V (As := [.int ro]) (rest := [.ref (a 0)]) (C := RX5) (own := RX5) ⟨hx, hb, hml, hown, hts⟩ (c_X5_isRow l D cI cC cH cL a z zh tx pa wy (nI ns) (nI nl) th rd nu pt za ro (by first | assumption | omega)) (cwV 1 hts gX5_lift_X5_isRow rfl rfl rfl k_X5_isRow ⟨Nat.le_of_ble_eq_true rfl, Nat.le_of_ble_eq_true rfl⟩) hP hK (va_recv (q := (RX5, TX5, 12)) hK hP (ci := 5) (q0 := 0) rfl rfl) rfl hl.1 rfl (Nat.le_of_ble_eq_true rfl) dX5_lift_3 ⟨Nat.le_of_ble_eq_true rfl, Nat.le_of_ble_eq_true rfl⟩ ?_
  refine kx_if_neb (tgt := 13) hx hb dX5_lift_6 (by decide) (fun c_6_0 => ?_) (fun c_6_1 => ?_)
  · obtain ⟨r0, hr0, rfl⟩ := isRow_out hw c_6_0
    have hc_r0 : cl (nI r0) = r0 := cl_nI (show r0 < 2 ^ 31 by omega)
    refine lv_iload_n hx hb dX5_lift_13 rfl (lv_at hl 2 rfl) ?_
    refine kr_S (As := [.int h0]) (rest := [.ref (a 0)]) (own := RX5) ⟨hx, hb, hml, hown, hts⟩ (c_X5_isHeight l D cI cC cH cL  h0 ) (va_cwS 1 hts gX5_lift_X5_isHeight rfl rfl rfl k_X5_isHeightS ⟨Nat.le_of_ble_eq_true rfl, Nat.le_of_ble_eq_true rfl⟩) (hP.sub (ws' := []) [] rfl) hK rfl hl.1 rfl (Nat.le_of_ble_eq_true rfl) dX5_lift_14 ⟨Nat.le_of_ble_eq_true rfl, Nat.le_of_ble_eq_true rfl⟩ ?_
    refine kx_if_eqb (tgt := 24) hx hb dX5_lift_17 (by decide) (fun c_17_2 => ?_) (fun c_17_3 => ?_)
    · refine lv_iconst (v := nI 2) hx hb dX5_lift_24 (by decide) ?_
      refine va_put (D := D) (ci := 5) (v := .int (nI 2)) (ty := .int) (C := RX5) (T := TX5) (N := 12) hx hb hts iX5_lift_5 tyX5 tyX5_ok nmX5 hown hK hP hD hS 0 rfl rfl 5 (by decide) (hts (.fieldLink RX5 25 "HallSightsModel" "thrown" "I") (List.mem_of_getElem? (i := 1) rfl)) (fun _ h9 => h9) rfl (by decide +kernel) rfl rfl (Nat.le_of_ble_eq_true rfl) dX5_lift_25 (fun H locs hP hD hS => ?_)
      have hP : va_P D vwCl (MW a cI z (nI ns) zh (nI nl) tx (nI 2) pa rd nu pt wy za) H := hP
      have hD : va_D (kA w0) (MW a cI z (nI ns) zh (nI nl) tx (nI 2) pa rd nu pt wy za) := hD
      refine lv_aload_n hx hb dX5_lift_28 rfl (lv_at hl 0 rfl) ?_
      refine va_get (D := D) (ci := 5) (v := .int (nI 2)) (C := RX5) (T := TX5) (N := 12) hx hb hts iX5_lift_5 hown hK hP 0 rfl rfl 5 (by decide) (hts (.fieldLink RX5 25 "HallSightsModel" "thrown" "I") (List.mem_of_getElem? (i := 1) rfl)) (fun _ h9 => h9) rfl dX5_lift_29 ?_
      refine kx_if_le (tgt := 37) hx hb (by omega) dX5_lift_32 (by decide) (fun c => absurd c (by omega)) (fun c_32_4 => ?_)
      refine lv_iconst (v := nI 0) hx hb dX5_lift_35 (by decide) ?_
      have e_5 : (nI 0 : Int32) = (if tLift z (nI r0) h0 = 0 then z (5 + 4 * (cl (nI r0)) + 1) else nI 0) := by first | rfl | omega | (simp [tLift, liftZ, Int32.not_lt, Int32.not_le, c_6_0, hc_r0, c_17_2]; done) | (simp [tLift, liftZ, Int32.not_lt, Int32.not_le, c_6_0, hc_r0, c_17_2]; omega) | (revert c_6_0 hc_r0 c_17_2; simp +contextual [tLift, liftZ, Int32.not_lt, Int32.not_le]; done) | (revert c_6_0 hc_r0 c_17_2; simp +contextual [tLift, liftZ, Int32.not_lt, Int32.not_le]; omega)
      have ec_z_6 : (z : ZZ) = (if tLift z (nI r0) h0 = 0 then liftZ z (cl (nI r0)) h0 else z) := by first | rfl | omega | (simp [tLift, liftZ, Int32.not_lt, Int32.not_le, c_6_0, hc_r0, c_17_2]; done) | (simp [tLift, liftZ, Int32.not_lt, Int32.not_le, c_6_0, hc_r0, c_17_2]; omega) | (revert c_6_0 hc_r0 c_17_2; simp +contextual [tLift, liftZ, Int32.not_lt, Int32.not_le]; done) | (revert c_6_0 hc_r0 c_17_2; simp +contextual [tLift, liftZ, Int32.not_lt, Int32.not_le]; omega)
      have ec_st_7 : ((nI ns) : Int32) = (nI (if tLift z (nI r0) h0 = 0 then saveN ns else ns)) := by first | rfl | omega | (simp [tLift, liftZ, Int32.not_lt, Int32.not_le, c_6_0, hc_r0, c_17_2]; done) | (simp [tLift, liftZ, Int32.not_lt, Int32.not_le, c_6_0, hc_r0, c_17_2]; omega) | (revert c_6_0 hc_r0 c_17_2; simp +contextual [tLift, liftZ, Int32.not_lt, Int32.not_le]; done) | (revert c_6_0 hc_r0 c_17_2; simp +contextual [tLift, liftZ, Int32.not_lt, Int32.not_le]; omega)
      have ec_zh_8 : (zh : ZZ) = (if tLift z (nI r0) h0 = 0 then saveH z zh ns else zh) := by first | rfl | omega | (simp [tLift, liftZ, Int32.not_lt, Int32.not_le, c_6_0, hc_r0, c_17_2]; done) | (simp [tLift, liftZ, Int32.not_lt, Int32.not_le, c_6_0, hc_r0, c_17_2]; omega) | (revert c_6_0 hc_r0 c_17_2; simp +contextual [tLift, liftZ, Int32.not_lt, Int32.not_le]; done) | (revert c_6_0 hc_r0 c_17_2; simp +contextual [tLift, liftZ, Int32.not_lt, Int32.not_le]; omega)
      have ec_th_9 : ((nI 2) : Int32) = (nI (tLift z (nI r0) h0)) := by first | rfl | omega | (simp [tLift, liftZ, Int32.not_lt, Int32.not_le, c_6_0, hc_r0, c_17_2]; done) | (simp [tLift, liftZ, Int32.not_lt, Int32.not_le, c_6_0, hc_r0, c_17_2]; omega) | (revert c_6_0 hc_r0 c_17_2; simp +contextual [tLift, liftZ, Int32.not_lt, Int32.not_le]; done) | (revert c_6_0 hc_r0 c_17_2; simp +contextual [tLift, liftZ, Int32.not_lt, Int32.not_le]; omega)
      have ew_10 : (MW a cI z (nI ns) zh (nI nl) tx (nI 2) pa rd nu pt wy za : va_W) = (MW a cI (if tLift z (nI r0) h0 = 0 then liftZ z (cl (nI r0)) h0 else z) (nI (if tLift z (nI r0) h0 = 0 then saveN ns else ns)) (if tLift z (nI r0) h0 = 0 then saveH z zh ns else zh) (nI nl) tx (nI (tLift z (nI r0) h0)) pa rd nu pt wy za) := mw_c ec_z_6 ec_st_7 ec_zh_8 rfl rfl ec_th_9 rfl rfl rfl rfl rfl rfl
      rw [ew_10] at hP hD
      subst hw0
      exact kq_iret hx hb hrt hlocks e_5 hP hD hS dX5_lift_36
    · refine lv_iconst (v := nI 0) hx hb dX5_lift_20 (by decide) ?_
      refine lv_goto (tgt := 25) hx hb dX5_lift_21 (by decide) ?_
      refine va_put (D := D) (ci := 5) (v := .int (nI 0)) (ty := .int) (C := RX5) (T := TX5) (N := 12) hx hb hts iX5_lift_5 tyX5 tyX5_ok nmX5 hown hK hP hD hS 0 rfl rfl 5 (by decide) (hts (.fieldLink RX5 25 "HallSightsModel" "thrown" "I") (List.mem_of_getElem? (i := 1) rfl)) (fun _ h9 => h9) rfl (by decide +kernel) rfl rfl (Nat.le_of_ble_eq_true rfl) dX5_lift_25 (fun H locs hP hD hS => ?_)
      have hP : va_P D vwCl (MW a cI z (nI ns) zh (nI nl) tx (nI 0) pa rd nu pt wy za) H := hP
      have hD : va_D (kA w0) (MW a cI z (nI ns) zh (nI nl) tx (nI 0) pa rd nu pt wy za) := hD
      refine lv_aload_n hx hb dX5_lift_28 rfl (lv_at hl 0 rfl) ?_
      refine va_get (D := D) (ci := 5) (v := .int (nI 0)) (C := RX5) (T := TX5) (N := 12) hx hb hts iX5_lift_5 hown hK hP 0 rfl rfl 5 (by decide) (hts (.fieldLink RX5 25 "HallSightsModel" "thrown" "I") (List.mem_of_getElem? (i := 1) rfl)) (fun _ h9 => h9) rfl dX5_lift_29 ?_
      refine kx_if_le (tgt := 37) hx hb (by omega) dX5_lift_32 (by decide) (fun c_32_11 => ?_) (fun c => absurd c (by omega))
      refine lv_aload_n hx hb dX5_lift_37 rfl (lv_at hl 0 rfl) ?_
      refine kw_V (As := []) (rest := []) (C := RX5) (own := RX5) ⟨hx, hb, hml, hown, hts⟩ (c_X5_save l D cI cC cH cL a z zh tx pa wy ns nl (nI 0) rd nu pt za  (by first | assumption | omega)) (cwV 0 hts gX5_lift_X5_save rfl rfl rfl k_X5_save ⟨Nat.le_of_ble_eq_true rfl, Nat.le_of_ble_eq_true rfl⟩) hP hD hK hS [0, 1, 2, 3, 4, 5] [] rfl rfl (wr := []) rfl (by decide) (by decide) (by decide) (va_recv (q := (RX5, TX5, 12)) hK hP (ci := 5) (q0 := 0) rfl rfl) rfl hl.1 rfl (Nat.le_of_ble_eq_true rfl) dX5_lift_38 ⟨Nat.le_of_ble_eq_true rfl, Nat.le_of_ble_eq_true rfl⟩ (fun H locs hP hD hS => ?_)
      have hP : va_P D vwCl (MW a cI z (nI (saveN ns)) (saveH z zh ns) (nI nl) tx (nI 0) pa rd nu pt wy za) H := hP
      have hD : va_D (kA w0) (MW a cI z (nI (saveN ns)) (saveH z zh ns) (nI nl) tx (nI 0) pa rd nu pt wy za) := hD
      refine lv_aload_n hx hb dX5_lift_41 rfl (lv_at hl 0 rfl) ?_
      refine lv_iload_n hx hb dX5_lift_42 rfl (lv_at hl 1 rfl) ?_
      refine lv_iconst (v := nI 1) hx hb dX5_lift_43 (by decide) ?_
      refine kr_V (As := [.int (nI r0), .int (nI 1)]) (rest := []) (C := RX5) (own := RX5) ⟨hx, hb, hml, hown, hts⟩ (c_X5_of l D cI cC cH cL a z (saveH z zh ns) tx pa wy (nI (saveN ns)) (nI nl) (nI 0) rd nu pt za r0 1 (by first | assumption | omega)) (cwV 2 hts gX5_lift_X5_of rfl rfl rfl k_X5_of ⟨Nat.le_of_ble_eq_true rfl, Nat.le_of_ble_eq_true rfl⟩) hP hK (va_recv (q := (RX5, TX5, 12)) hK hP (ci := 5) (q0 := 0) rfl rfl) rfl hl.1 rfl (Nat.le_of_ble_eq_true rfl) dX5_lift_44 ⟨Nat.le_of_ble_eq_true rfl, Nat.le_of_ble_eq_true rfl⟩ ?_
      refine lv_istore_n (lv' := [(3, .int (z (5 + 4 * r0 + 1))), (0, .ref (a 0)), (1, .int (nI r0)), (2, .int h0)]) hx hb dX5_lift_47 rfl hl (by decide) rfl (fun ls hl => ?_)
      refine lv_aload_n hx hb dX5_lift_48 rfl (lv_at hl 1 rfl) ?_
      refine lv_iload_n hx hb dX5_lift_49 rfl (lv_at hl 2 rfl) ?_
      refine lv_iconst (v := nI 1) hx hb dX5_lift_50 (by decide) ?_
      refine lv_iload_n hx hb dX5_lift_51 rfl (lv_at hl 3 rfl) ?_
      refine kw_V (As := [.int (nI r0), .int (nI 1), .int h0]) (rest := []) (C := RX5) (own := RX5) ⟨hx, hb, hml, hown, hts⟩ (c_X5_put l D cI cC cH cL a z (saveH z zh ns) tx pa wy (nI (saveN ns)) (nI nl) (nI 0) rd nu pt za r0 1 h0 (by first | assumption | omega)) (cwV 3 hts gX5_lift_X5_put rfl rfl rfl k_X5_put ⟨Nat.le_of_ble_eq_true rfl, Nat.le_of_ble_eq_true rfl⟩) hP hD hK hS [0, 1, 2, 3, 4, 5] [] rfl rfl (wr := []) rfl (by decide) (by decide) (by decide) (va_recv (q := (RX5, TX5, 12)) hK hP (ci := 5) (q0 := 0) rfl rfl) rfl hl.1 rfl (Nat.le_of_ble_eq_true rfl) dX5_lift_52 ⟨Nat.le_of_ble_eq_true rfl, Nat.le_of_ble_eq_true rfl⟩ (fun H locs hP hD hS => ?_)
      have hP : va_P D vwCl (MW a cI (upd z (5 + 4 * r0 + 1) h0) (nI (saveN ns)) (saveH z zh ns) (nI nl) tx (nI 0) pa rd nu pt wy za) H := hP
      have hD : va_D (kA w0) (MW a cI (upd z (5 + 4 * r0 + 1) h0) (nI (saveN ns)) (saveH z zh ns) (nI nl) tx (nI 0) pa rd nu pt wy za) := hD
      refine lv_iload_n hx hb dX5_lift_55 rfl (lv_at hl 0 rfl) ?_
      have e_12 : (z (5 + 4 * r0 + 1) : Int32) = (if tLift z (nI r0) h0 = 0 then z (5 + 4 * (cl (nI r0)) + 1) else nI 0) := by first | rfl | omega | (simp [tLift, liftZ, Int32.not_lt, Int32.not_le, c_6_0, hc_r0, c_17_3]; done) | (simp [tLift, liftZ, Int32.not_lt, Int32.not_le, c_6_0, hc_r0, c_17_3]; omega) | (revert c_6_0 hc_r0 c_17_3; simp +contextual [tLift, liftZ, Int32.not_lt, Int32.not_le]; done) | (revert c_6_0 hc_r0 c_17_3; simp +contextual [tLift, liftZ, Int32.not_lt, Int32.not_le]; omega)
      have ec_z_13 : ((upd z (5 + 4 * r0 + 1) h0) : ZZ) = (if tLift z (nI r0) h0 = 0 then liftZ z (cl (nI r0)) h0 else z) := by first | rfl | omega | (simp [tLift, liftZ, Int32.not_lt, Int32.not_le, c_6_0, hc_r0, c_17_3]; done) | (simp [tLift, liftZ, Int32.not_lt, Int32.not_le, c_6_0, hc_r0, c_17_3]; omega) | (revert c_6_0 hc_r0 c_17_3; simp +contextual [tLift, liftZ, Int32.not_lt, Int32.not_le]; done) | (revert c_6_0 hc_r0 c_17_3; simp +contextual [tLift, liftZ, Int32.not_lt, Int32.not_le]; omega)
      have ec_st_14 : ((nI (saveN ns)) : Int32) = (nI (if tLift z (nI r0) h0 = 0 then saveN ns else ns)) := by first | rfl | omega | (simp [tLift, liftZ, Int32.not_lt, Int32.not_le, c_6_0, hc_r0, c_17_3]; done) | (simp [tLift, liftZ, Int32.not_lt, Int32.not_le, c_6_0, hc_r0, c_17_3]; omega) | (revert c_6_0 hc_r0 c_17_3; simp +contextual [tLift, liftZ, Int32.not_lt, Int32.not_le]; done) | (revert c_6_0 hc_r0 c_17_3; simp +contextual [tLift, liftZ, Int32.not_lt, Int32.not_le]; omega)
      have ec_zh_15 : ((saveH z zh ns) : ZZ) = (if tLift z (nI r0) h0 = 0 then saveH z zh ns else zh) := by first | rfl | omega | (simp [tLift, liftZ, Int32.not_lt, Int32.not_le, c_6_0, hc_r0, c_17_3]; done) | (simp [tLift, liftZ, Int32.not_lt, Int32.not_le, c_6_0, hc_r0, c_17_3]; omega) | (revert c_6_0 hc_r0 c_17_3; simp +contextual [tLift, liftZ, Int32.not_lt, Int32.not_le]; done) | (revert c_6_0 hc_r0 c_17_3; simp +contextual [tLift, liftZ, Int32.not_lt, Int32.not_le]; omega)
      have ec_th_16 : ((nI 0) : Int32) = (nI (tLift z (nI r0) h0)) := by first | rfl | omega | (simp [tLift, liftZ, Int32.not_lt, Int32.not_le, c_6_0, hc_r0, c_17_3]; done) | (simp [tLift, liftZ, Int32.not_lt, Int32.not_le, c_6_0, hc_r0, c_17_3]; omega) | (revert c_6_0 hc_r0 c_17_3; simp +contextual [tLift, liftZ, Int32.not_lt, Int32.not_le]; done) | (revert c_6_0 hc_r0 c_17_3; simp +contextual [tLift, liftZ, Int32.not_lt, Int32.not_le]; omega)
      have ew_17 : (MW a cI (upd z (5 + 4 * r0 + 1) h0) (nI (saveN ns)) (saveH z zh ns) (nI nl) tx (nI 0) pa rd nu pt wy za : va_W) = (MW a cI (if tLift z (nI r0) h0 = 0 then liftZ z (cl (nI r0)) h0 else z) (nI (if tLift z (nI r0) h0 = 0 then saveN ns else ns)) (if tLift z (nI r0) h0 = 0 then saveH z zh ns else zh) (nI nl) tx (nI (tLift z (nI r0) h0)) pa rd nu pt wy za) := mw_c ec_z_13 ec_st_14 ec_zh_15 rfl rfl ec_th_16 rfl rfl rfl rfl rfl rfl
      rw [ew_17] at hP hD
      subst hw0
      exact kq_iret hx hb hrt hlocks e_12 hP hD hS dX5_lift_56
  · refine lv_iconst (v := nI 1) hx hb dX5_lift_9 (by decide) ?_
    refine lv_goto (tgt := 25) hx hb dX5_lift_10 (by decide) ?_
    refine va_put (D := D) (ci := 5) (v := .int (nI 1)) (ty := .int) (C := RX5) (T := TX5) (N := 12) hx hb hts iX5_lift_5 tyX5 tyX5_ok nmX5 hown hK hP hD hS 0 rfl rfl 5 (by decide) (hts (.fieldLink RX5 25 "HallSightsModel" "thrown" "I") (List.mem_of_getElem? (i := 1) rfl)) (fun _ h9 => h9) rfl (by decide +kernel) rfl rfl (Nat.le_of_ble_eq_true rfl) dX5_lift_25 (fun H locs hP hD hS => ?_)
    have hP : va_P D vwCl (MW a cI z (nI ns) zh (nI nl) tx (nI 1) pa rd nu pt wy za) H := hP
    have hD : va_D (kA w0) (MW a cI z (nI ns) zh (nI nl) tx (nI 1) pa rd nu pt wy za) := hD
    refine lv_aload_n hx hb dX5_lift_28 rfl (lv_at hl 0 rfl) ?_
    refine va_get (D := D) (ci := 5) (v := .int (nI 1)) (C := RX5) (T := TX5) (N := 12) hx hb hts iX5_lift_5 hown hK hP 0 rfl rfl 5 (by decide) (hts (.fieldLink RX5 25 "HallSightsModel" "thrown" "I") (List.mem_of_getElem? (i := 1) rfl)) (fun _ h9 => h9) rfl dX5_lift_29 ?_
    refine kx_if_le (tgt := 37) hx hb (by omega) dX5_lift_32 (by decide) (fun c => absurd c (by omega)) (fun c_32_18 => ?_)
    refine lv_iconst (v := nI 0) hx hb dX5_lift_35 (by decide) ?_
    have e_19 : (nI 0 : Int32) = (if tLift z ro h0 = 0 then z (5 + 4 * (cl ro) + 1) else nI 0) := by first | rfl | omega | (simp [tLift, liftZ, Int32.not_lt, Int32.not_le, c_6_1]; done) | (simp [tLift, liftZ, Int32.not_lt, Int32.not_le, c_6_1]; omega) | (revert c_6_1; simp +contextual [tLift, liftZ, Int32.not_lt, Int32.not_le]; done) | (revert c_6_1; simp +contextual [tLift, liftZ, Int32.not_lt, Int32.not_le]; omega)
    have ec_z_20 : (z : ZZ) = (if tLift z ro h0 = 0 then liftZ z (cl ro) h0 else z) := by first | rfl | omega | (simp [tLift, liftZ, Int32.not_lt, Int32.not_le, c_6_1]; done) | (simp [tLift, liftZ, Int32.not_lt, Int32.not_le, c_6_1]; omega) | (revert c_6_1; simp +contextual [tLift, liftZ, Int32.not_lt, Int32.not_le]; done) | (revert c_6_1; simp +contextual [tLift, liftZ, Int32.not_lt, Int32.not_le]; omega)
    have ec_st_21 : ((nI ns) : Int32) = (nI (if tLift z ro h0 = 0 then saveN ns else ns)) := by first | rfl | omega | (simp [tLift, liftZ, Int32.not_lt, Int32.not_le, c_6_1]; done) | (simp [tLift, liftZ, Int32.not_lt, Int32.not_le, c_6_1]; omega) | (revert c_6_1; simp +contextual [tLift, liftZ, Int32.not_lt, Int32.not_le]; done) | (revert c_6_1; simp +contextual [tLift, liftZ, Int32.not_lt, Int32.not_le]; omega)
    have ec_zh_22 : (zh : ZZ) = (if tLift z ro h0 = 0 then saveH z zh ns else zh) := by first | rfl | omega | (simp [tLift, liftZ, Int32.not_lt, Int32.not_le, c_6_1]; done) | (simp [tLift, liftZ, Int32.not_lt, Int32.not_le, c_6_1]; omega) | (revert c_6_1; simp +contextual [tLift, liftZ, Int32.not_lt, Int32.not_le]; done) | (revert c_6_1; simp +contextual [tLift, liftZ, Int32.not_lt, Int32.not_le]; omega)
    have ec_th_23 : ((nI 1) : Int32) = (nI (tLift z ro h0)) := by first | rfl | omega | (simp [tLift, liftZ, Int32.not_lt, Int32.not_le, c_6_1]; done) | (simp [tLift, liftZ, Int32.not_lt, Int32.not_le, c_6_1]; omega) | (revert c_6_1; simp +contextual [tLift, liftZ, Int32.not_lt, Int32.not_le]; done) | (revert c_6_1; simp +contextual [tLift, liftZ, Int32.not_lt, Int32.not_le]; omega)
    have ew_24 : (MW a cI z (nI ns) zh (nI nl) tx (nI 1) pa rd nu pt wy za : va_W) = (MW a cI (if tLift z ro h0 = 0 then liftZ z (cl ro) h0 else z) (nI (if tLift z ro h0 = 0 then saveN ns else ns)) (if tLift z ro h0 = 0 then saveH z zh ns else zh) (nI nl) tx (nI (tLift z ro h0)) pa rd nu pt wy za) := mw_c ec_z_20 ec_st_21 ec_zh_22 rfl rfl ec_th_23 rfl rfl rfl rfl rfl rfl
    rw [ew_24] at hP hD
    subst hw0
    exact kq_iret hx hb hrt hlocks e_19 hP hD hS dX5_lift_36
set_option maxRecDepth 20000 in
theorem iX5_addColumn_5 : ∀ w ∈ wsX50, w ∈ wsX5_addColumn := by decide +kernel
set_option maxHeartbeats 4000000 in
set_option maxRecDepth 100000 in
theorem c_X5_addColumn (l : Launch) (D : va_G) (cI cC cH cL : ClassId) (a : Nat → Nat) (z zh tx pa wy : ZZ) (ns nl : Nat) (th rd nu pt : Int32) (za : Int64) (d0 : Int32) (s0 : Int32) (h0 : Int32) (hw : WF z) (hn : ns ≤ 6) : Met l yX5_addColumn wsX5_addColumn ({ frames := 2, cells := 0, slots := 0, locals := 42 }) (kw [.ref (a 0), .int d0, .int s0, .int h0] D (MW a cI z (nI ns) zh (nI nl) tx th pa rd nu pt wy za) (kT cI cC cH cL)) (kq D (MW a cI z (nI ns) zh (nI nl) tx th pa rd nu pt wy za) (MW a cI (if tAddCol z d0 s0 h0 = 0 then addC z d0 s0 h0 else z) (nI (if tAddCol z d0 s0 h0 = 0 then saveN ns else ns)) (if tAddCol z d0 s0 h0 = 0 then saveH z zh ns else zh) (nI nl) tx (nI (tAddCol z d0 s0 h0)) pa rd nu pt wy za) (.returned (some (.int (if tAddCol z d0 s0 h0 = 0 then nI (nC z) else nI 0))))) 0 0 (kA (MW a cI z (nI ns) zh (nI nl) tx th pa rd nu pt wy za)) := by
  refine Met.ofW (cc := cX5_addColumn) (maxL := 6) (ret := (some .int)) (by decide) rfl ?_
  intro p e s m args below meth c s₁ B hml hv
  obtain ⟨rfl, hP, hK, hD0⟩ := hv
  have hx := B.exec
  have hb := B.bytes
  have hrt := B.returns
  have hts := atoms_spec (ws := wsX5_addColumn) B.pre
  have hown : s.vm.findClass RX5 = some m.cls := findClass_of_methodNamed B.named
  have hlocks := B.notSynchronized
  have hl := lv_entry ([.ref (a 0), .int d0, .int s0, .int h0]) (n := 6) (Nat.le_of_ble_eq_true rfl)
  rw [lg_entry_eq]
  generalize (lg_sl ([.ref (a 0), .int d0, .int s0, .int h0]) ++ List.replicate (6 - (lg_sl ([.ref (a 0), .int d0, .int s0, .int h0])).length) Slot.unset).toArray = ls at hl ⊢
  have hl : lv_has ls 6 [(0, .ref (a 0)), (1, .int d0), (2, .int s0), (3, .int h0)] := hl
  have hD := kA_self hD0
  obtain ⟨w0, hw0⟩ : ∃ w : va_W, w = MW a cI z (nI ns) zh (nI nl) tx th pa rd nu pt wy za := ⟨_, rfl⟩
  have hD : va_D (kA w0) (MW a cI z (nI ns) zh (nI nl) tx th pa rd nu pt wy za) := by rw [hw0]; exact hD
  have hS : va_S (kA w0) s.heap s.heap [] := va_S.rf
  rw [show kA (MW a cI z (nI ns) zh (nI nl) tx th pa rd nu pt wy za) = kA w0 from by rw [hw0], show kq D (MW a cI z (nI ns) zh (nI nl) tx th pa rd nu pt wy za) = kq D w0 from by rw [hw0]]
  have hP : va_P D vwCl (MW a cI z (nI ns) zh (nI nl) tx th pa rd nu pt wy za) s.heap := hP
  have hR10 := wf_R10 hw
  have hC4 := wf_C4 hw
  refine lv_iload_n hx hb dX5_addColumn_0 rfl (lv_at hl 1 rfl) ?_
  refine kr_S (As := [.int d0]) (rest := []) (own := RX5) ⟨hx, hb, hml, hown, hts⟩ (c_X5_isFar l D cI cC cH cL  d0 ) (va_cwS 1 hts gX5_addColumn_X5_isFar rfl rfl rfl k_X5_isFarS ⟨Nat.le_of_ble_eq_true rfl, Nat.le_of_ble_eq_true rfl⟩) (hP.sub (ws' := []) [] rfl) hK rfl hl.1 rfl (Nat.le_of_ble_eq_true rfl) dX5_addColumn_1 ⟨Nat.le_of_ble_eq_true rfl, Nat.le_of_ble_eq_true rfl⟩ ?_
  refine kx_if_eqb (tgt := 31) hx hb dX5_addColumn_4 (by decide) (fun c_4_0 => ?_) (fun c_4_1 => ?_)
  · refine lv_iconst (v := nI 0) hx hb dX5_addColumn_31 (by decide) ?_
    refine lv_istore (lv' := [(4, .int (nI 0)), (0, .ref (a 0)), (1, .int d0), (2, .int s0), (3, .int h0)]) hx hb dX5_addColumn_32 hl (by decide) rfl (fun ls hl => ?_)
    refine lv_aload_n hx hb dX5_addColumn_34 rfl (lv_at hl 1 rfl) ?_
    refine lv_iload hx hb dX5_addColumn_35 (lv_at hl 0 rfl) ?_
    refine kx_if_ne (tgt := 44) hx hb (by omega) dX5_addColumn_37 (by decide) (fun c => absurd c (by omega)) (fun c_37_2 => ?_)
    refine lv_iconst (v := nI 1) hx hb dX5_addColumn_40 (by decide) ?_
    refine lv_goto (tgt := 59) hx hb dX5_addColumn_41 (by decide) ?_
    refine va_put (D := D) (ci := 5) (v := .int (nI 1)) (ty := .int) (C := RX5) (T := TX5) (N := 12) hx hb hts iX5_addColumn_5 tyX5 tyX5_ok nmX5 hown hK hP hD hS 0 rfl rfl 5 (by decide) (hts (.fieldLink RX5 25 "HallSightsModel" "thrown" "I") (List.mem_of_getElem? (i := 2) rfl)) (fun _ h9 => h9) rfl (by decide +kernel) rfl rfl (Nat.le_of_ble_eq_true rfl) dX5_addColumn_59 (fun H locs hP hD hS => ?_)
    have hP : va_P D vwCl (MW a cI z (nI ns) zh (nI nl) tx (nI 1) pa rd nu pt wy za) H := hP
    have hD : va_D (kA w0) (MW a cI z (nI ns) zh (nI nl) tx (nI 1) pa rd nu pt wy za) := hD
    refine lv_aload_n hx hb dX5_addColumn_62 rfl (lv_at hl 1 rfl) ?_
    refine va_get (D := D) (ci := 5) (v := .int (nI 1)) (C := RX5) (T := TX5) (N := 12) hx hb hts iX5_addColumn_5 hown hK hP 0 rfl rfl 5 (by decide) (hts (.fieldLink RX5 25 "HallSightsModel" "thrown" "I") (List.mem_of_getElem? (i := 2) rfl)) (fun _ h9 => h9) rfl dX5_addColumn_63 ?_
    refine kx_if_le (tgt := 71) hx hb (by omega) dX5_addColumn_66 (by decide) (fun c => absurd c (by omega)) (fun c_66_3 => ?_)
    refine lv_iconst (v := nI 0) hx hb dX5_addColumn_69 (by decide) ?_
    have e_4 : (nI 0 : Int32) = (if tAddCol z d0 s0 h0 = 0 then nI (nC z) else nI 0) := by first | rfl | omega | (simp [tAddCol, addC, Int32.not_lt, Int32.not_le, c_4_0]; done) | (simp [tAddCol, addC, Int32.not_lt, Int32.not_le, c_4_0]; omega) | (revert c_4_0; simp +contextual [tAddCol, addC, Int32.not_lt, Int32.not_le]; done) | (revert c_4_0; simp +contextual [tAddCol, addC, Int32.not_lt, Int32.not_le]; omega)
    have ec_z_5 : (z : ZZ) = (if tAddCol z d0 s0 h0 = 0 then addC z d0 s0 h0 else z) := by first | rfl | omega | (simp [tAddCol, addC, Int32.not_lt, Int32.not_le, c_4_0]; done) | (simp [tAddCol, addC, Int32.not_lt, Int32.not_le, c_4_0]; omega) | (revert c_4_0; simp +contextual [tAddCol, addC, Int32.not_lt, Int32.not_le]; done) | (revert c_4_0; simp +contextual [tAddCol, addC, Int32.not_lt, Int32.not_le]; omega)
    have ec_st_6 : ((nI ns) : Int32) = (nI (if tAddCol z d0 s0 h0 = 0 then saveN ns else ns)) := by first | rfl | omega | (simp [tAddCol, addC, Int32.not_lt, Int32.not_le, c_4_0]; done) | (simp [tAddCol, addC, Int32.not_lt, Int32.not_le, c_4_0]; omega) | (revert c_4_0; simp +contextual [tAddCol, addC, Int32.not_lt, Int32.not_le]; done) | (revert c_4_0; simp +contextual [tAddCol, addC, Int32.not_lt, Int32.not_le]; omega)
    have ec_zh_7 : (zh : ZZ) = (if tAddCol z d0 s0 h0 = 0 then saveH z zh ns else zh) := by first | rfl | omega | (simp [tAddCol, addC, Int32.not_lt, Int32.not_le, c_4_0]; done) | (simp [tAddCol, addC, Int32.not_lt, Int32.not_le, c_4_0]; omega) | (revert c_4_0; simp +contextual [tAddCol, addC, Int32.not_lt, Int32.not_le]; done) | (revert c_4_0; simp +contextual [tAddCol, addC, Int32.not_lt, Int32.not_le]; omega)
    have ec_th_8 : ((nI 1) : Int32) = (nI (tAddCol z d0 s0 h0)) := by first | rfl | omega | (simp [tAddCol, addC, Int32.not_lt, Int32.not_le, c_4_0]; done) | (simp [tAddCol, addC, Int32.not_lt, Int32.not_le, c_4_0]; omega) | (revert c_4_0; simp +contextual [tAddCol, addC, Int32.not_lt, Int32.not_le]; done) | (revert c_4_0; simp +contextual [tAddCol, addC, Int32.not_lt, Int32.not_le]; omega)
    have ew_9 : (MW a cI z (nI ns) zh (nI nl) tx (nI 1) pa rd nu pt wy za : va_W) = (MW a cI (if tAddCol z d0 s0 h0 = 0 then addC z d0 s0 h0 else z) (nI (if tAddCol z d0 s0 h0 = 0 then saveN ns else ns)) (if tAddCol z d0 s0 h0 = 0 then saveH z zh ns else zh) (nI nl) tx (nI (tAddCol z d0 s0 h0)) pa rd nu pt wy za) := mw_c ec_z_5 ec_st_6 ec_zh_7 rfl rfl ec_th_8 rfl rfl rfl rfl rfl rfl
    rw [ew_9] at hP hD
    subst hw0
    exact kq_iret hx hb hrt hlocks e_4 hP hD hS dX5_addColumn_70
  · refine lv_iload_n hx hb dX5_addColumn_7 rfl (lv_at hl 2 rfl) ?_
    refine lv_bipush (v := (-12)) hx hb dX5_addColumn_8 (by decide) ?_
    refine lv_bipush (v := nI 12) hx hb dX5_addColumn_10 (by decide) ?_
    refine kr_S (As := [.int s0, .int (-12), .int (nI 12)]) (rest := []) (own := RX5) ⟨hx, hb, hml, hown, hts⟩ (c_X5_within l D cI cC cH cL  s0 (-12) (nI 12) ) (va_cwS 3 hts gX5_addColumn_X5_within rfl rfl rfl k_X5_withinS ⟨Nat.le_of_ble_eq_true rfl, Nat.le_of_ble_eq_true rfl⟩) (hP.sub (ws' := []) [] rfl) hK rfl hl.1 rfl (Nat.le_of_ble_eq_true rfl) dX5_addColumn_12 ⟨Nat.le_of_ble_eq_true rfl, Nat.le_of_ble_eq_true rfl⟩ ?_
    refine kx_if_eqb (tgt := 31) hx hb dX5_addColumn_15 (by decide) (fun c_15_10 => ?_) (fun c_15_11 => ?_)
    · refine lv_iconst (v := nI 0) hx hb dX5_addColumn_31 (by decide) ?_
      refine lv_istore (lv' := [(4, .int (nI 0)), (0, .ref (a 0)), (1, .int d0), (2, .int s0), (3, .int h0)]) hx hb dX5_addColumn_32 hl (by decide) rfl (fun ls hl => ?_)
      refine lv_aload_n hx hb dX5_addColumn_34 rfl (lv_at hl 1 rfl) ?_
      refine lv_iload hx hb dX5_addColumn_35 (lv_at hl 0 rfl) ?_
      refine kx_if_ne (tgt := 44) hx hb (by omega) dX5_addColumn_37 (by decide) (fun c => absurd c (by omega)) (fun c_37_12 => ?_)
      refine lv_iconst (v := nI 1) hx hb dX5_addColumn_40 (by decide) ?_
      refine lv_goto (tgt := 59) hx hb dX5_addColumn_41 (by decide) ?_
      refine va_put (D := D) (ci := 5) (v := .int (nI 1)) (ty := .int) (C := RX5) (T := TX5) (N := 12) hx hb hts iX5_addColumn_5 tyX5 tyX5_ok nmX5 hown hK hP hD hS 0 rfl rfl 5 (by decide) (hts (.fieldLink RX5 25 "HallSightsModel" "thrown" "I") (List.mem_of_getElem? (i := 2) rfl)) (fun _ h9 => h9) rfl (by decide +kernel) rfl rfl (Nat.le_of_ble_eq_true rfl) dX5_addColumn_59 (fun H locs hP hD hS => ?_)
      have hP : va_P D vwCl (MW a cI z (nI ns) zh (nI nl) tx (nI 1) pa rd nu pt wy za) H := hP
      have hD : va_D (kA w0) (MW a cI z (nI ns) zh (nI nl) tx (nI 1) pa rd nu pt wy za) := hD
      refine lv_aload_n hx hb dX5_addColumn_62 rfl (lv_at hl 1 rfl) ?_
      refine va_get (D := D) (ci := 5) (v := .int (nI 1)) (C := RX5) (T := TX5) (N := 12) hx hb hts iX5_addColumn_5 hown hK hP 0 rfl rfl 5 (by decide) (hts (.fieldLink RX5 25 "HallSightsModel" "thrown" "I") (List.mem_of_getElem? (i := 2) rfl)) (fun _ h9 => h9) rfl dX5_addColumn_63 ?_
      refine kx_if_le (tgt := 71) hx hb (by omega) dX5_addColumn_66 (by decide) (fun c => absurd c (by omega)) (fun c_66_13 => ?_)
      refine lv_iconst (v := nI 0) hx hb dX5_addColumn_69 (by decide) ?_
      have e_14 : (nI 0 : Int32) = (if tAddCol z d0 s0 h0 = 0 then nI (nC z) else nI 0) := by first | rfl | omega | (simp [tAddCol, addC, Int32.not_lt, Int32.not_le, c_4_1, c_15_10]; done) | (simp [tAddCol, addC, Int32.not_lt, Int32.not_le, c_4_1, c_15_10]; omega) | (revert c_4_1 c_15_10; simp +contextual [tAddCol, addC, Int32.not_lt, Int32.not_le]; done) | (revert c_4_1 c_15_10; simp +contextual [tAddCol, addC, Int32.not_lt, Int32.not_le]; omega)
      have ec_z_15 : (z : ZZ) = (if tAddCol z d0 s0 h0 = 0 then addC z d0 s0 h0 else z) := by first | rfl | omega | (simp [tAddCol, addC, Int32.not_lt, Int32.not_le, c_4_1, c_15_10]; done) | (simp [tAddCol, addC, Int32.not_lt, Int32.not_le, c_4_1, c_15_10]; omega) | (revert c_4_1 c_15_10; simp +contextual [tAddCol, addC, Int32.not_lt, Int32.not_le]; done) | (revert c_4_1 c_15_10; simp +contextual [tAddCol, addC, Int32.not_lt, Int32.not_le]; omega)
      have ec_st_16 : ((nI ns) : Int32) = (nI (if tAddCol z d0 s0 h0 = 0 then saveN ns else ns)) := by first | rfl | omega | (simp [tAddCol, addC, Int32.not_lt, Int32.not_le, c_4_1, c_15_10]; done) | (simp [tAddCol, addC, Int32.not_lt, Int32.not_le, c_4_1, c_15_10]; omega) | (revert c_4_1 c_15_10; simp +contextual [tAddCol, addC, Int32.not_lt, Int32.not_le]; done) | (revert c_4_1 c_15_10; simp +contextual [tAddCol, addC, Int32.not_lt, Int32.not_le]; omega)
      have ec_zh_17 : (zh : ZZ) = (if tAddCol z d0 s0 h0 = 0 then saveH z zh ns else zh) := by first | rfl | omega | (simp [tAddCol, addC, Int32.not_lt, Int32.not_le, c_4_1, c_15_10]; done) | (simp [tAddCol, addC, Int32.not_lt, Int32.not_le, c_4_1, c_15_10]; omega) | (revert c_4_1 c_15_10; simp +contextual [tAddCol, addC, Int32.not_lt, Int32.not_le]; done) | (revert c_4_1 c_15_10; simp +contextual [tAddCol, addC, Int32.not_lt, Int32.not_le]; omega)
      have ec_th_18 : ((nI 1) : Int32) = (nI (tAddCol z d0 s0 h0)) := by first | rfl | omega | (simp [tAddCol, addC, Int32.not_lt, Int32.not_le, c_4_1, c_15_10]; done) | (simp [tAddCol, addC, Int32.not_lt, Int32.not_le, c_4_1, c_15_10]; omega) | (revert c_4_1 c_15_10; simp +contextual [tAddCol, addC, Int32.not_lt, Int32.not_le]; done) | (revert c_4_1 c_15_10; simp +contextual [tAddCol, addC, Int32.not_lt, Int32.not_le]; omega)
      have ew_19 : (MW a cI z (nI ns) zh (nI nl) tx (nI 1) pa rd nu pt wy za : va_W) = (MW a cI (if tAddCol z d0 s0 h0 = 0 then addC z d0 s0 h0 else z) (nI (if tAddCol z d0 s0 h0 = 0 then saveN ns else ns)) (if tAddCol z d0 s0 h0 = 0 then saveH z zh ns else zh) (nI nl) tx (nI (tAddCol z d0 s0 h0)) pa rd nu pt wy za) := mw_c ec_z_15 ec_st_16 ec_zh_17 rfl rfl ec_th_18 rfl rfl rfl rfl rfl rfl
      rw [ew_19] at hP hD
      subst hw0
      exact kq_iret hx hb hrt hlocks e_14 hP hD hS dX5_addColumn_70
    · refine lv_iload_n hx hb dX5_addColumn_18 rfl (lv_at hl 3 rfl) ?_
      refine lv_iconst (v := nI 0) hx hb dX5_addColumn_19 (by decide) ?_
      refine lv_iconst (v := nI 5) hx hb dX5_addColumn_20 (by decide) ?_
      refine kr_S (As := [.int h0, .int (nI 0), .int (nI 5)]) (rest := []) (own := RX5) ⟨hx, hb, hml, hown, hts⟩ (c_X5_within l D cI cC cH cL  h0 (nI 0) (nI 5) ) (va_cwS 3 hts gX5_addColumn_X5_within rfl rfl rfl k_X5_withinS ⟨Nat.le_of_ble_eq_true rfl, Nat.le_of_ble_eq_true rfl⟩) (hP.sub (ws' := []) [] rfl) hK rfl hl.1 rfl (Nat.le_of_ble_eq_true rfl) dX5_addColumn_21 ⟨Nat.le_of_ble_eq_true rfl, Nat.le_of_ble_eq_true rfl⟩ ?_
      refine kx_if_eqb (tgt := 31) hx hb dX5_addColumn_24 (by decide) (fun c_24_20 => ?_) (fun c_24_21 => ?_)
      · refine lv_iconst (v := nI 0) hx hb dX5_addColumn_31 (by decide) ?_
        refine lv_istore (lv' := [(4, .int (nI 0)), (0, .ref (a 0)), (1, .int d0), (2, .int s0), (3, .int h0)]) hx hb dX5_addColumn_32 hl (by decide) rfl (fun ls hl => ?_)
        refine lv_aload_n hx hb dX5_addColumn_34 rfl (lv_at hl 1 rfl) ?_
        refine lv_iload hx hb dX5_addColumn_35 (lv_at hl 0 rfl) ?_
        refine kx_if_ne (tgt := 44) hx hb (by omega) dX5_addColumn_37 (by decide) (fun c => absurd c (by omega)) (fun c_37_22 => ?_)
        refine lv_iconst (v := nI 1) hx hb dX5_addColumn_40 (by decide) ?_
        refine lv_goto (tgt := 59) hx hb dX5_addColumn_41 (by decide) ?_
        refine va_put (D := D) (ci := 5) (v := .int (nI 1)) (ty := .int) (C := RX5) (T := TX5) (N := 12) hx hb hts iX5_addColumn_5 tyX5 tyX5_ok nmX5 hown hK hP hD hS 0 rfl rfl 5 (by decide) (hts (.fieldLink RX5 25 "HallSightsModel" "thrown" "I") (List.mem_of_getElem? (i := 2) rfl)) (fun _ h9 => h9) rfl (by decide +kernel) rfl rfl (Nat.le_of_ble_eq_true rfl) dX5_addColumn_59 (fun H locs hP hD hS => ?_)
        have hP : va_P D vwCl (MW a cI z (nI ns) zh (nI nl) tx (nI 1) pa rd nu pt wy za) H := hP
        have hD : va_D (kA w0) (MW a cI z (nI ns) zh (nI nl) tx (nI 1) pa rd nu pt wy za) := hD
        refine lv_aload_n hx hb dX5_addColumn_62 rfl (lv_at hl 1 rfl) ?_
        refine va_get (D := D) (ci := 5) (v := .int (nI 1)) (C := RX5) (T := TX5) (N := 12) hx hb hts iX5_addColumn_5 hown hK hP 0 rfl rfl 5 (by decide) (hts (.fieldLink RX5 25 "HallSightsModel" "thrown" "I") (List.mem_of_getElem? (i := 2) rfl)) (fun _ h9 => h9) rfl dX5_addColumn_63 ?_
        refine kx_if_le (tgt := 71) hx hb (by omega) dX5_addColumn_66 (by decide) (fun c => absurd c (by omega)) (fun c_66_23 => ?_)
        refine lv_iconst (v := nI 0) hx hb dX5_addColumn_69 (by decide) ?_
        have e_24 : (nI 0 : Int32) = (if tAddCol z d0 s0 h0 = 0 then nI (nC z) else nI 0) := by first | rfl | omega | (simp [tAddCol, addC, Int32.not_lt, Int32.not_le, c_4_1, c_15_11, c_24_20]; done) | (simp [tAddCol, addC, Int32.not_lt, Int32.not_le, c_4_1, c_15_11, c_24_20]; omega) | (revert c_4_1 c_15_11 c_24_20; simp +contextual [tAddCol, addC, Int32.not_lt, Int32.not_le]; done) | (revert c_4_1 c_15_11 c_24_20; simp +contextual [tAddCol, addC, Int32.not_lt, Int32.not_le]; omega)
        have ec_z_25 : (z : ZZ) = (if tAddCol z d0 s0 h0 = 0 then addC z d0 s0 h0 else z) := by first | rfl | omega | (simp [tAddCol, addC, Int32.not_lt, Int32.not_le, c_4_1, c_15_11, c_24_20]; done) | (simp [tAddCol, addC, Int32.not_lt, Int32.not_le, c_4_1, c_15_11, c_24_20]; omega) | (revert c_4_1 c_15_11 c_24_20; simp +contextual [tAddCol, addC, Int32.not_lt, Int32.not_le]; done) | (revert c_4_1 c_15_11 c_24_20; simp +contextual [tAddCol, addC, Int32.not_lt, Int32.not_le]; omega)
        have ec_st_26 : ((nI ns) : Int32) = (nI (if tAddCol z d0 s0 h0 = 0 then saveN ns else ns)) := by first | rfl | omega | (simp [tAddCol, addC, Int32.not_lt, Int32.not_le, c_4_1, c_15_11, c_24_20]; done) | (simp [tAddCol, addC, Int32.not_lt, Int32.not_le, c_4_1, c_15_11, c_24_20]; omega) | (revert c_4_1 c_15_11 c_24_20; simp +contextual [tAddCol, addC, Int32.not_lt, Int32.not_le]; done) | (revert c_4_1 c_15_11 c_24_20; simp +contextual [tAddCol, addC, Int32.not_lt, Int32.not_le]; omega)
        have ec_zh_27 : (zh : ZZ) = (if tAddCol z d0 s0 h0 = 0 then saveH z zh ns else zh) := by first | rfl | omega | (simp [tAddCol, addC, Int32.not_lt, Int32.not_le, c_4_1, c_15_11, c_24_20]; done) | (simp [tAddCol, addC, Int32.not_lt, Int32.not_le, c_4_1, c_15_11, c_24_20]; omega) | (revert c_4_1 c_15_11 c_24_20; simp +contextual [tAddCol, addC, Int32.not_lt, Int32.not_le]; done) | (revert c_4_1 c_15_11 c_24_20; simp +contextual [tAddCol, addC, Int32.not_lt, Int32.not_le]; omega)
        have ec_th_28 : ((nI 1) : Int32) = (nI (tAddCol z d0 s0 h0)) := by first | rfl | omega | (simp [tAddCol, addC, Int32.not_lt, Int32.not_le, c_4_1, c_15_11, c_24_20]; done) | (simp [tAddCol, addC, Int32.not_lt, Int32.not_le, c_4_1, c_15_11, c_24_20]; omega) | (revert c_4_1 c_15_11 c_24_20; simp +contextual [tAddCol, addC, Int32.not_lt, Int32.not_le]; done) | (revert c_4_1 c_15_11 c_24_20; simp +contextual [tAddCol, addC, Int32.not_lt, Int32.not_le]; omega)
        have ew_29 : (MW a cI z (nI ns) zh (nI nl) tx (nI 1) pa rd nu pt wy za : va_W) = (MW a cI (if tAddCol z d0 s0 h0 = 0 then addC z d0 s0 h0 else z) (nI (if tAddCol z d0 s0 h0 = 0 then saveN ns else ns)) (if tAddCol z d0 s0 h0 = 0 then saveH z zh ns else zh) (nI nl) tx (nI (tAddCol z d0 s0 h0)) pa rd nu pt wy za) := mw_c ec_z_25 ec_st_26 ec_zh_27 rfl rfl ec_th_28 rfl rfl rfl rfl rfl rfl
        rw [ew_29] at hP hD
        subst hw0
        exact kq_iret hx hb hrt hlocks e_24 hP hD hS dX5_addColumn_70
      · refine lv_iconst (v := nI 1) hx hb dX5_addColumn_27 (by decide) ?_
        refine lv_goto (tgt := 32) hx hb dX5_addColumn_28 (by decide) ?_
        refine lv_istore (lv' := [(4, .int (nI 1)), (0, .ref (a 0)), (1, .int d0), (2, .int s0), (3, .int h0)]) hx hb dX5_addColumn_32 hl (by decide) rfl (fun ls hl => ?_)
        refine lv_aload_n hx hb dX5_addColumn_34 rfl (lv_at hl 1 rfl) ?_
        refine lv_iload hx hb dX5_addColumn_35 (lv_at hl 0 rfl) ?_
        refine kx_if_ne (tgt := 44) hx hb (by omega) dX5_addColumn_37 (by decide) (fun c_37_30 => ?_) (fun c => absurd c (by omega))
        refine lv_aload_n hx hb dX5_addColumn_44 rfl (lv_at hl 1 rfl) ?_
        refine va_get (D := D) (ci := 5) (v := .ref (a 1)) (C := RX5) (T := TX5) (N := 12) hx hb hts iX5_addColumn_5 hown hK hP 0 rfl rfl 0 (by decide) (hts (.fieldLink RX5 7 "HallSightsModel" "z" "[I") (List.mem_of_getElem? (i := 1) rfl)) (fun _ h9 => h9) rfl dX5_addColumn_45 ?_
        refine lv_iconst (v := nI 4) hx hb dX5_addColumn_48 (by decide) ?_
        refine kx_iald hx hb hK hP 1 0 rfl rfl (by omega) (by decide) dX5_addColumn_49 ?_
        refine kx_top (wf_C hw) ?_
        refine lv_iconst (v := nI 4) hx hb dX5_addColumn_50 (by decide) ?_
        refine kx_icmp_ne (tgt := 58) hx hb (by omega) (by omega) dX5_addColumn_51 (by decide) (fun c_51_31 => ?_) (fun c_51_32 => ?_)
        · refine lv_iconst (v := nI 0) hx hb dX5_addColumn_58 (by decide) ?_
          refine va_put (D := D) (ci := 5) (v := .int (nI 0)) (ty := .int) (C := RX5) (T := TX5) (N := 12) hx hb hts iX5_addColumn_5 tyX5 tyX5_ok nmX5 hown hK hP hD hS 0 rfl rfl 5 (by decide) (hts (.fieldLink RX5 25 "HallSightsModel" "thrown" "I") (List.mem_of_getElem? (i := 2) rfl)) (fun _ h9 => h9) rfl (by decide +kernel) rfl rfl (Nat.le_of_ble_eq_true rfl) dX5_addColumn_59 (fun H locs hP hD hS => ?_)
          have hP : va_P D vwCl (MW a cI z (nI ns) zh (nI nl) tx (nI 0) pa rd nu pt wy za) H := hP
          have hD : va_D (kA w0) (MW a cI z (nI ns) zh (nI nl) tx (nI 0) pa rd nu pt wy za) := hD
          refine lv_aload_n hx hb dX5_addColumn_62 rfl (lv_at hl 1 rfl) ?_
          refine va_get (D := D) (ci := 5) (v := .int (nI 0)) (C := RX5) (T := TX5) (N := 12) hx hb hts iX5_addColumn_5 hown hK hP 0 rfl rfl 5 (by decide) (hts (.fieldLink RX5 25 "HallSightsModel" "thrown" "I") (List.mem_of_getElem? (i := 2) rfl)) (fun _ h9 => h9) rfl dX5_addColumn_63 ?_
          refine kx_if_le (tgt := 71) hx hb (by omega) dX5_addColumn_66 (by decide) (fun c_66_33 => ?_) (fun c => absurd c (by omega))
          refine lv_aload_n hx hb dX5_addColumn_71 rfl (lv_at hl 1 rfl) ?_
          refine kw_V (As := []) (rest := []) (C := RX5) (own := RX5) ⟨hx, hb, hml, hown, hts⟩ (c_X5_save l D cI cC cH cL a z zh tx pa wy ns nl (nI 0) rd nu pt za  (by first | assumption | omega)) (cwV 0 hts gX5_addColumn_X5_save rfl rfl rfl k_X5_save ⟨Nat.le_of_ble_eq_true rfl, Nat.le_of_ble_eq_true rfl⟩) hP hD hK hS [0, 1, 2, 3, 4, 5] [] rfl rfl (wr := []) rfl (by decide) (by decide) (by decide) (va_recv (q := (RX5, TX5, 12)) hK hP (ci := 5) (q0 := 0) rfl rfl) rfl hl.1 rfl (Nat.le_of_ble_eq_true rfl) dX5_addColumn_72 ⟨Nat.le_of_ble_eq_true rfl, Nat.le_of_ble_eq_true rfl⟩ (fun H locs hP hD hS => ?_)
          have hP : va_P D vwCl (MW a cI z (nI (saveN ns)) (saveH z zh ns) (nI nl) tx (nI 0) pa rd nu pt wy za) H := hP
          have hD : va_D (kA w0) (MW a cI z (nI (saveN ns)) (saveH z zh ns) (nI nl) tx (nI 0) pa rd nu pt wy za) := hD
          refine lv_bipush (v := nI 45) hx hb dX5_addColumn_75 (by decide) ?_
          refine lv_iconst (v := nI 3) hx hb dX5_addColumn_77 (by decide) ?_
          refine lv_aload_n hx hb dX5_addColumn_78 rfl (lv_at hl 1 rfl) ?_
          refine va_get (D := D) (ci := 5) (v := .ref (a 1)) (C := RX5) (T := TX5) (N := 12) hx hb hts iX5_addColumn_5 hown hK hP 0 rfl rfl 0 (by decide) (hts (.fieldLink RX5 7 "HallSightsModel" "z" "[I") (List.mem_of_getElem? (i := 1) rfl)) (fun _ h9 => h9) rfl dX5_addColumn_79 ?_
          refine lv_iconst (v := nI 4) hx hb dX5_addColumn_82 (by decide) ?_
          refine kx_iald hx hb hK hP 1 0 rfl rfl (by omega) (by decide) dX5_addColumn_83 ?_
          refine kx_top (wf_C hw) ?_
          refine kx_imul hx hb dX5_addColumn_84 ?_
          refine kx_iadd hx hb dX5_addColumn_85 ?_
          refine lv_istore (lv' := [(5, .int (nI (45 + (3 * (nC z))))), (4, .int (nI 1)), (0, .ref (a 0)), (1, .int d0), (2, .int s0), (3, .int h0)]) hx hb dX5_addColumn_86 hl (by decide) rfl (fun ls hl => ?_)
          refine lv_aload_n hx hb dX5_addColumn_88 rfl (lv_at hl 2 rfl) ?_
          refine va_get (D := D) (ci := 5) (v := .ref (a 1)) (C := RX5) (T := TX5) (N := 12) hx hb hts iX5_addColumn_5 hown hK hP 0 rfl rfl 0 (by decide) (hts (.fieldLink RX5 7 "HallSightsModel" "z" "[I") (List.mem_of_getElem? (i := 1) rfl)) (fun _ h9 => h9) rfl dX5_addColumn_89 ?_
          refine lv_iload hx hb dX5_addColumn_92 (lv_at hl 0 rfl) ?_
          refine lv_iconst (v := nI 0) hx hb dX5_addColumn_94 (by decide) ?_
          refine kx_iadd hx hb dX5_addColumn_95 ?_
          refine lv_iload_n hx hb dX5_addColumn_96 rfl (lv_at hl 3 rfl) ?_
          refine kx_iast hx hb hK hP hD hS 1 0 rfl rfl (by omega) (by decide) dX5_addColumn_97 (fun H locs hP hD hS => ?_)
          have hP : va_P D vwCl (MW a cI (upd z ((45 + (3 * (nC z))) + 0) d0) (nI (saveN ns)) (saveH z zh ns) (nI nl) tx (nI 0) pa rd nu pt wy za) H := hP
          have hD : va_D (kA w0) (MW a cI (upd z ((45 + (3 * (nC z))) + 0) d0) (nI (saveN ns)) (saveH z zh ns) (nI nl) tx (nI 0) pa rd nu pt wy za) := hD
          refine lv_aload_n hx hb dX5_addColumn_98 rfl (lv_at hl 2 rfl) ?_
          refine va_get (D := D) (ci := 5) (v := .ref (a 1)) (C := RX5) (T := TX5) (N := 12) hx hb hts iX5_addColumn_5 hown hK hP 0 rfl rfl 0 (by decide) (hts (.fieldLink RX5 7 "HallSightsModel" "z" "[I") (List.mem_of_getElem? (i := 1) rfl)) (fun _ h9 => h9) rfl dX5_addColumn_99 ?_
          refine lv_iload hx hb dX5_addColumn_102 (lv_at hl 0 rfl) ?_
          refine lv_iconst (v := nI 1) hx hb dX5_addColumn_104 (by decide) ?_
          refine kx_iadd hx hb dX5_addColumn_105 ?_
          refine lv_iload_n hx hb dX5_addColumn_106 rfl (lv_at hl 4 rfl) ?_
          refine kx_iast hx hb hK hP hD hS 1 0 rfl rfl (by omega) (by decide) dX5_addColumn_107 (fun H locs hP hD hS => ?_)
          have hP : va_P D vwCl (MW a cI (upd (upd z ((45 + (3 * (nC z))) + 0) d0) ((45 + (3 * (nC z))) + 1) s0) (nI (saveN ns)) (saveH z zh ns) (nI nl) tx (nI 0) pa rd nu pt wy za) H := hP
          have hD : va_D (kA w0) (MW a cI (upd (upd z ((45 + (3 * (nC z))) + 0) d0) ((45 + (3 * (nC z))) + 1) s0) (nI (saveN ns)) (saveH z zh ns) (nI nl) tx (nI 0) pa rd nu pt wy za) := hD
          refine lv_aload_n hx hb dX5_addColumn_108 rfl (lv_at hl 2 rfl) ?_
          refine va_get (D := D) (ci := 5) (v := .ref (a 1)) (C := RX5) (T := TX5) (N := 12) hx hb hts iX5_addColumn_5 hown hK hP 0 rfl rfl 0 (by decide) (hts (.fieldLink RX5 7 "HallSightsModel" "z" "[I") (List.mem_of_getElem? (i := 1) rfl)) (fun _ h9 => h9) rfl dX5_addColumn_109 ?_
          refine lv_iload hx hb dX5_addColumn_112 (lv_at hl 0 rfl) ?_
          refine lv_iconst (v := nI 2) hx hb dX5_addColumn_114 (by decide) ?_
          refine kx_iadd hx hb dX5_addColumn_115 ?_
          refine lv_iload_n hx hb dX5_addColumn_116 rfl (lv_at hl 5 rfl) ?_
          refine kx_iast hx hb hK hP hD hS 1 0 rfl rfl (by omega) (by decide) dX5_addColumn_117 (fun H locs hP hD hS => ?_)
          have hP : va_P D vwCl (MW a cI (upd (upd (upd z ((45 + (3 * (nC z))) + 0) d0) ((45 + (3 * (nC z))) + 1) s0) ((45 + (3 * (nC z))) + 2) h0) (nI (saveN ns)) (saveH z zh ns) (nI nl) tx (nI 0) pa rd nu pt wy za) H := hP
          have hD : va_D (kA w0) (MW a cI (upd (upd (upd z ((45 + (3 * (nC z))) + 0) d0) ((45 + (3 * (nC z))) + 1) s0) ((45 + (3 * (nC z))) + 2) h0) (nI (saveN ns)) (saveH z zh ns) (nI nl) tx (nI 0) pa rd nu pt wy za) := hD
          refine lv_aload_n hx hb dX5_addColumn_118 rfl (lv_at hl 2 rfl) ?_
          refine va_get (D := D) (ci := 5) (v := .ref (a 1)) (C := RX5) (T := TX5) (N := 12) hx hb hts iX5_addColumn_5 hown hK hP 0 rfl rfl 0 (by decide) (hts (.fieldLink RX5 7 "HallSightsModel" "z" "[I") (List.mem_of_getElem? (i := 1) rfl)) (fun _ h9 => h9) rfl dX5_addColumn_119 ?_
          refine lv_iconst (v := nI 4) hx hb dX5_addColumn_122 (by decide) ?_
          refine lv_dup2_11 hx hb dX5_addColumn_123 rfl rfl ?_
          refine kx_iald hx hb hK hP 1 0 rfl rfl (by omega) (by decide) dX5_addColumn_124 ?_
          refine kx_top (show ((upd (upd (upd z ((45 + (3 * (nC z))) + 0) d0) ((45 + (3 * (nC z))) + 1) s0) ((45 + (3 * (nC z))) + 2) h0) 4 : Int32) = nI (nC z) from by (rw [upd_ne (by omega), upd_ne (by omega), upd_ne (by omega)]; exact wf_C hw)) ?_
          refine lv_iconst (v := nI 1) hx hb dX5_addColumn_125 (by decide) ?_
          refine kx_iadd hx hb dX5_addColumn_126 ?_
          refine kx_iast hx hb hK hP hD hS 1 0 rfl rfl (by omega) (by decide) dX5_addColumn_127 (fun H locs hP hD hS => ?_)
          have hP : va_P D vwCl (MW a cI (upd (upd (upd (upd z ((45 + (3 * (nC z))) + 0) d0) ((45 + (3 * (nC z))) + 1) s0) ((45 + (3 * (nC z))) + 2) h0) 4 (nI ((nC z) + 1))) (nI (saveN ns)) (saveH z zh ns) (nI nl) tx (nI 0) pa rd nu pt wy za) H := hP
          have hD : va_D (kA w0) (MW a cI (upd (upd (upd (upd z ((45 + (3 * (nC z))) + 0) d0) ((45 + (3 * (nC z))) + 1) s0) ((45 + (3 * (nC z))) + 2) h0) 4 (nI ((nC z) + 1))) (nI (saveN ns)) (saveH z zh ns) (nI nl) tx (nI 0) pa rd nu pt wy za) := hD
          refine lv_aload_n hx hb dX5_addColumn_128 rfl (lv_at hl 2 rfl) ?_
          refine va_get (D := D) (ci := 5) (v := .ref (a 1)) (C := RX5) (T := TX5) (N := 12) hx hb hts iX5_addColumn_5 hown hK hP 0 rfl rfl 0 (by decide) (hts (.fieldLink RX5 7 "HallSightsModel" "z" "[I") (List.mem_of_getElem? (i := 1) rfl)) (fun _ h9 => h9) rfl dX5_addColumn_129 ?_
          refine lv_iconst (v := nI 4) hx hb dX5_addColumn_132 (by decide) ?_
          refine kx_iald hx hb hK hP 1 0 rfl rfl (by omega) (by decide) dX5_addColumn_133 ?_
          refine kx_top (show ((upd (upd (upd (upd z ((45 + (3 * (nC z))) + 0) d0) ((45 + (3 * (nC z))) + 1) s0) ((45 + (3 * (nC z))) + 2) h0) 4 (nI ((nC z) + 1))) 4 : Int32) = nI (nC z + 1) from by exact upd_eq) ?_
          refine lv_iconst (v := nI 1) hx hb dX5_addColumn_134 (by decide) ?_
          refine kx_isub hx hb (by omega) dX5_addColumn_135 ?_
          have e_34 : (nI ((nC z + 1) - 1) : Int32) = (if tAddCol z d0 s0 h0 = 0 then nI (nC z) else nI 0) := by first | rfl | omega | (simp [tAddCol, addC, Int32.not_lt, Int32.not_le, c_4_1, c_15_11, c_24_21, c_51_31]; done) | (simp [tAddCol, addC, Int32.not_lt, Int32.not_le, c_4_1, c_15_11, c_24_21, c_51_31]; omega) | (revert c_4_1 c_15_11 c_24_21 c_51_31; simp +contextual [tAddCol, addC, Int32.not_lt, Int32.not_le]; done) | (revert c_4_1 c_15_11 c_24_21 c_51_31; simp +contextual [tAddCol, addC, Int32.not_lt, Int32.not_le]; omega)
          have ec_z_35 : ((upd (upd (upd (upd z ((45 + (3 * (nC z))) + 0) d0) ((45 + (3 * (nC z))) + 1) s0) ((45 + (3 * (nC z))) + 2) h0) 4 (nI ((nC z) + 1))) : ZZ) = (if tAddCol z d0 s0 h0 = 0 then addC z d0 s0 h0 else z) := by first | rfl | omega | (simp [tAddCol, addC, Int32.not_lt, Int32.not_le, c_4_1, c_15_11, c_24_21, c_51_31]; done) | (simp [tAddCol, addC, Int32.not_lt, Int32.not_le, c_4_1, c_15_11, c_24_21, c_51_31]; omega) | (revert c_4_1 c_15_11 c_24_21 c_51_31; simp +contextual [tAddCol, addC, Int32.not_lt, Int32.not_le]; done) | (revert c_4_1 c_15_11 c_24_21 c_51_31; simp +contextual [tAddCol, addC, Int32.not_lt, Int32.not_le]; omega)
          have ec_st_36 : ((nI (saveN ns)) : Int32) = (nI (if tAddCol z d0 s0 h0 = 0 then saveN ns else ns)) := by first | rfl | omega | (simp [tAddCol, addC, Int32.not_lt, Int32.not_le, c_4_1, c_15_11, c_24_21, c_51_31]; done) | (simp [tAddCol, addC, Int32.not_lt, Int32.not_le, c_4_1, c_15_11, c_24_21, c_51_31]; omega) | (revert c_4_1 c_15_11 c_24_21 c_51_31; simp +contextual [tAddCol, addC, Int32.not_lt, Int32.not_le]; done) | (revert c_4_1 c_15_11 c_24_21 c_51_31; simp +contextual [tAddCol, addC, Int32.not_lt, Int32.not_le]; omega)
          have ec_zh_37 : ((saveH z zh ns) : ZZ) = (if tAddCol z d0 s0 h0 = 0 then saveH z zh ns else zh) := by first | rfl | omega | (simp [tAddCol, addC, Int32.not_lt, Int32.not_le, c_4_1, c_15_11, c_24_21, c_51_31]; done) | (simp [tAddCol, addC, Int32.not_lt, Int32.not_le, c_4_1, c_15_11, c_24_21, c_51_31]; omega) | (revert c_4_1 c_15_11 c_24_21 c_51_31; simp +contextual [tAddCol, addC, Int32.not_lt, Int32.not_le]; done) | (revert c_4_1 c_15_11 c_24_21 c_51_31; simp +contextual [tAddCol, addC, Int32.not_lt, Int32.not_le]; omega)
          have ec_th_38 : ((nI 0) : Int32) = (nI (tAddCol z d0 s0 h0)) := by first | rfl | omega | (simp [tAddCol, addC, Int32.not_lt, Int32.not_le, c_4_1, c_15_11, c_24_21, c_51_31]; done) | (simp [tAddCol, addC, Int32.not_lt, Int32.not_le, c_4_1, c_15_11, c_24_21, c_51_31]; omega) | (revert c_4_1 c_15_11 c_24_21 c_51_31; simp +contextual [tAddCol, addC, Int32.not_lt, Int32.not_le]; done) | (revert c_4_1 c_15_11 c_24_21 c_51_31; simp +contextual [tAddCol, addC, Int32.not_lt, Int32.not_le]; omega)
          have ew_39 : (MW a cI (upd (upd (upd (upd z ((45 + (3 * (nC z))) + 0) d0) ((45 + (3 * (nC z))) + 1) s0) ((45 + (3 * (nC z))) + 2) h0) 4 (nI ((nC z) + 1))) (nI (saveN ns)) (saveH z zh ns) (nI nl) tx (nI 0) pa rd nu pt wy za : va_W) = (MW a cI (if tAddCol z d0 s0 h0 = 0 then addC z d0 s0 h0 else z) (nI (if tAddCol z d0 s0 h0 = 0 then saveN ns else ns)) (if tAddCol z d0 s0 h0 = 0 then saveH z zh ns else zh) (nI nl) tx (nI (tAddCol z d0 s0 h0)) pa rd nu pt wy za) := mw_c ec_z_35 ec_st_36 ec_zh_37 rfl rfl ec_th_38 rfl rfl rfl rfl rfl rfl
          rw [ew_39] at hP hD
          subst hw0
          exact kq_iret hx hb hrt hlocks e_34 hP hD hS dX5_addColumn_136
        · refine lv_iconst (v := nI 2) hx hb dX5_addColumn_54 (by decide) ?_
          refine lv_goto (tgt := 59) hx hb dX5_addColumn_55 (by decide) ?_
          refine va_put (D := D) (ci := 5) (v := .int (nI 2)) (ty := .int) (C := RX5) (T := TX5) (N := 12) hx hb hts iX5_addColumn_5 tyX5 tyX5_ok nmX5 hown hK hP hD hS 0 rfl rfl 5 (by decide) (hts (.fieldLink RX5 25 "HallSightsModel" "thrown" "I") (List.mem_of_getElem? (i := 2) rfl)) (fun _ h9 => h9) rfl (by decide +kernel) rfl rfl (Nat.le_of_ble_eq_true rfl) dX5_addColumn_59 (fun H locs hP hD hS => ?_)
          have hP : va_P D vwCl (MW a cI z (nI ns) zh (nI nl) tx (nI 2) pa rd nu pt wy za) H := hP
          have hD : va_D (kA w0) (MW a cI z (nI ns) zh (nI nl) tx (nI 2) pa rd nu pt wy za) := hD
          refine lv_aload_n hx hb dX5_addColumn_62 rfl (lv_at hl 1 rfl) ?_
          refine va_get (D := D) (ci := 5) (v := .int (nI 2)) (C := RX5) (T := TX5) (N := 12) hx hb hts iX5_addColumn_5 hown hK hP 0 rfl rfl 5 (by decide) (hts (.fieldLink RX5 25 "HallSightsModel" "thrown" "I") (List.mem_of_getElem? (i := 2) rfl)) (fun _ h9 => h9) rfl dX5_addColumn_63 ?_
          refine kx_if_le (tgt := 71) hx hb (by omega) dX5_addColumn_66 (by decide) (fun c => absurd c (by omega)) (fun c_66_40 => ?_)
          refine lv_iconst (v := nI 0) hx hb dX5_addColumn_69 (by decide) ?_
          have e_41 : (nI 0 : Int32) = (if tAddCol z d0 s0 h0 = 0 then nI (nC z) else nI 0) := by first | rfl | omega | (simp [tAddCol, addC, Int32.not_lt, Int32.not_le, c_4_1, c_15_11, c_24_21, c_51_32]; done) | (simp [tAddCol, addC, Int32.not_lt, Int32.not_le, c_4_1, c_15_11, c_24_21, c_51_32]; omega) | (revert c_4_1 c_15_11 c_24_21 c_51_32; simp +contextual [tAddCol, addC, Int32.not_lt, Int32.not_le]; done) | (revert c_4_1 c_15_11 c_24_21 c_51_32; simp +contextual [tAddCol, addC, Int32.not_lt, Int32.not_le]; omega)
          have ec_z_42 : (z : ZZ) = (if tAddCol z d0 s0 h0 = 0 then addC z d0 s0 h0 else z) := by first | rfl | omega | (simp [tAddCol, addC, Int32.not_lt, Int32.not_le, c_4_1, c_15_11, c_24_21, c_51_32]; done) | (simp [tAddCol, addC, Int32.not_lt, Int32.not_le, c_4_1, c_15_11, c_24_21, c_51_32]; omega) | (revert c_4_1 c_15_11 c_24_21 c_51_32; simp +contextual [tAddCol, addC, Int32.not_lt, Int32.not_le]; done) | (revert c_4_1 c_15_11 c_24_21 c_51_32; simp +contextual [tAddCol, addC, Int32.not_lt, Int32.not_le]; omega)
          have ec_st_43 : ((nI ns) : Int32) = (nI (if tAddCol z d0 s0 h0 = 0 then saveN ns else ns)) := by first | rfl | omega | (simp [tAddCol, addC, Int32.not_lt, Int32.not_le, c_4_1, c_15_11, c_24_21, c_51_32]; done) | (simp [tAddCol, addC, Int32.not_lt, Int32.not_le, c_4_1, c_15_11, c_24_21, c_51_32]; omega) | (revert c_4_1 c_15_11 c_24_21 c_51_32; simp +contextual [tAddCol, addC, Int32.not_lt, Int32.not_le]; done) | (revert c_4_1 c_15_11 c_24_21 c_51_32; simp +contextual [tAddCol, addC, Int32.not_lt, Int32.not_le]; omega)
          have ec_zh_44 : (zh : ZZ) = (if tAddCol z d0 s0 h0 = 0 then saveH z zh ns else zh) := by first | rfl | omega | (simp [tAddCol, addC, Int32.not_lt, Int32.not_le, c_4_1, c_15_11, c_24_21, c_51_32]; done) | (simp [tAddCol, addC, Int32.not_lt, Int32.not_le, c_4_1, c_15_11, c_24_21, c_51_32]; omega) | (revert c_4_1 c_15_11 c_24_21 c_51_32; simp +contextual [tAddCol, addC, Int32.not_lt, Int32.not_le]; done) | (revert c_4_1 c_15_11 c_24_21 c_51_32; simp +contextual [tAddCol, addC, Int32.not_lt, Int32.not_le]; omega)
          have ec_th_45 : ((nI 2) : Int32) = (nI (tAddCol z d0 s0 h0)) := by first | rfl | omega | (simp [tAddCol, addC, Int32.not_lt, Int32.not_le, c_4_1, c_15_11, c_24_21, c_51_32]; done) | (simp [tAddCol, addC, Int32.not_lt, Int32.not_le, c_4_1, c_15_11, c_24_21, c_51_32]; omega) | (revert c_4_1 c_15_11 c_24_21 c_51_32; simp +contextual [tAddCol, addC, Int32.not_lt, Int32.not_le]; done) | (revert c_4_1 c_15_11 c_24_21 c_51_32; simp +contextual [tAddCol, addC, Int32.not_lt, Int32.not_le]; omega)
          have ew_46 : (MW a cI z (nI ns) zh (nI nl) tx (nI 2) pa rd nu pt wy za : va_W) = (MW a cI (if tAddCol z d0 s0 h0 = 0 then addC z d0 s0 h0 else z) (nI (if tAddCol z d0 s0 h0 = 0 then saveN ns else ns)) (if tAddCol z d0 s0 h0 = 0 then saveH z zh ns else zh) (nI nl) tx (nI (tAddCol z d0 s0 h0)) pa rd nu pt wy za) := mw_c ec_z_42 ec_st_43 ec_zh_44 rfl rfl ec_th_45 rfl rfl rfl rfl rfl rfl
          rw [ew_46] at hP hD
          subst hw0
          exact kq_iret hx hb hrt hlocks e_41 hP hD hS dX5_addColumn_70
set_option maxRecDepth 20000 in
theorem iX5_removeColumn_5 : ∀ w ∈ wsX50, w ∈ wsX5_removeColumn := by decide +kernel
set_option maxHeartbeats 4000000 in
set_option maxRecDepth 100000 in
theorem c_X5_removeColumn (l : Launch) (D : va_G) (cI cC cH cL : ClassId) (a : Nat → Nat) (z zh tx pa wy : ZZ) (ns nl : Nat) (th rd nu pt : Int32) (za : Int64) (co : Int32) (hw : WF z) (hn : ns ≤ 6) : Met l yX5_removeColumn wsX5_removeColumn ({ frames := 2, cells := 0, slots := 0, locals := 43 }) (kw [.ref (a 0), .int co] D (MW a cI z (nI ns) zh (nI nl) tx th pa rd nu pt wy za) (kT cI cC cH cL)) (kq D (MW a cI z (nI ns) zh (nI nl) tx th pa rd nu pt wy za) (MW a cI (if tCol z co = 0 then dlcZ z (cl co) else z) (nI (if tCol z co = 0 then saveN ns else ns)) (if tCol z co = 0 then saveH z zh ns else zh) (nI nl) tx (nI (tCol z co)) pa rd nu pt wy za) (.returned (some (.int (if tCol z co = 0 then nI (nC z - 1) else nI 0))))) 0 0 (kA (MW a cI z (nI ns) zh (nI nl) tx th pa rd nu pt wy za)) := by
  refine Met.ofW (cc := cX5_removeColumn) (maxL := 3) (ret := (some .int)) (by decide) rfl ?_
  intro p e s m args below meth c s₁ B hml hv
  obtain ⟨rfl, hP, hK, hD0⟩ := hv
  have hx := B.exec
  have hb := B.bytes
  have hrt := B.returns
  have hts := atoms_spec (ws := wsX5_removeColumn) B.pre
  have hown : s.vm.findClass RX5 = some m.cls := findClass_of_methodNamed B.named
  have hlocks := B.notSynchronized
  have hl := lv_entry ([.ref (a 0), .int co]) (n := 3) (Nat.le_of_ble_eq_true rfl)
  rw [lg_entry_eq]
  generalize (lg_sl ([.ref (a 0), .int co]) ++ List.replicate (3 - (lg_sl ([.ref (a 0), .int co])).length) Slot.unset).toArray = ls at hl ⊢
  have hl : lv_has ls 3 [(0, .ref (a 0)), (1, .int co)] := hl
  have hD := kA_self hD0
  obtain ⟨w0, hw0⟩ : ∃ w : va_W, w = MW a cI z (nI ns) zh (nI nl) tx th pa rd nu pt wy za := ⟨_, rfl⟩
  have hD : va_D (kA w0) (MW a cI z (nI ns) zh (nI nl) tx th pa rd nu pt wy za) := by rw [hw0]; exact hD
  have hS : va_S (kA w0) s.heap s.heap [] := va_S.rf
  rw [show kA (MW a cI z (nI ns) zh (nI nl) tx th pa rd nu pt wy za) = kA w0 from by rw [hw0], show kq D (MW a cI z (nI ns) zh (nI nl) tx th pa rd nu pt wy za) = kq D w0 from by rw [hw0]]
  have hP : va_P D vwCl (MW a cI z (nI ns) zh (nI nl) tx th pa rd nu pt wy za) s.heap := hP
  have hR10 := wf_R10 hw
  have hC4 := wf_C4 hw
  refine lv_aload_n hx hb dX5_removeColumn_0 rfl (lv_at hl 0 rfl) ?_
  refine lv_aload_n hx hb dX5_removeColumn_1 rfl (lv_at hl 0 rfl) ?_
  refine lv_iload_n hx hb dX5_removeColumn_2 rfl (lv_at hl 1 rfl) ?_
  refine kr_V (As := [.int co]) (rest := [.ref (a 0)]) (C := RX5) (own := RX5) ⟨hx, hb, hml, hown, hts⟩ (c_X5_isColumn l D cI cC cH cL a z zh tx pa wy (nI ns) (nI nl) th rd nu pt za co (by first | assumption | omega)) (cwV 1 hts gX5_removeColumn_X5_isColumn rfl rfl rfl k_X5_isColumn ⟨Nat.le_of_ble_eq_true rfl, Nat.le_of_ble_eq_true rfl⟩) hP hK (va_recv (q := (RX5, TX5, 12)) hK hP (ci := 5) (q0 := 0) rfl rfl) rfl hl.1 rfl (Nat.le_of_ble_eq_true rfl) dX5_removeColumn_3 ⟨Nat.le_of_ble_eq_true rfl, Nat.le_of_ble_eq_true rfl⟩ ?_
  refine kx_if_eqb (tgt := 13) hx hb dX5_removeColumn_6 (by decide) (fun c_6_0 => ?_) (fun c_6_1 => ?_)
  · refine lv_iconst (v := nI 1) hx hb dX5_removeColumn_13 (by decide) ?_
    refine va_put (D := D) (ci := 5) (v := .int (nI 1)) (ty := .int) (C := RX5) (T := TX5) (N := 12) hx hb hts iX5_removeColumn_5 tyX5 tyX5_ok nmX5 hown hK hP hD hS 0 rfl rfl 5 (by decide) (hts (.fieldLink RX5 25 "HallSightsModel" "thrown" "I") (List.mem_of_getElem? (i := 1) rfl)) (fun _ h9 => h9) rfl (by decide +kernel) rfl rfl (Nat.le_of_ble_eq_true rfl) dX5_removeColumn_14 (fun H locs hP hD hS => ?_)
    have hP : va_P D vwCl (MW a cI z (nI ns) zh (nI nl) tx (nI 1) pa rd nu pt wy za) H := hP
    have hD : va_D (kA w0) (MW a cI z (nI ns) zh (nI nl) tx (nI 1) pa rd nu pt wy za) := hD
    refine lv_aload_n hx hb dX5_removeColumn_17 rfl (lv_at hl 0 rfl) ?_
    refine va_get (D := D) (ci := 5) (v := .int (nI 1)) (C := RX5) (T := TX5) (N := 12) hx hb hts iX5_removeColumn_5 hown hK hP 0 rfl rfl 5 (by decide) (hts (.fieldLink RX5 25 "HallSightsModel" "thrown" "I") (List.mem_of_getElem? (i := 1) rfl)) (fun _ h9 => h9) rfl dX5_removeColumn_18 ?_
    refine kx_if_le (tgt := 26) hx hb (by omega) dX5_removeColumn_21 (by decide) (fun c => absurd c (by omega)) (fun c_21_2 => ?_)
    refine lv_iconst (v := nI 0) hx hb dX5_removeColumn_24 (by decide) ?_
    have e_3 : (nI 0 : Int32) = (if tCol z co = 0 then nI (nC z - 1) else nI 0) := by first | rfl | omega | (simp [tCol, dlcZ, Int32.not_lt, Int32.not_le, c_6_0]; done) | (simp [tCol, dlcZ, Int32.not_lt, Int32.not_le, c_6_0]; omega) | (revert c_6_0; simp +contextual [tCol, dlcZ, Int32.not_lt, Int32.not_le]; done) | (revert c_6_0; simp +contextual [tCol, dlcZ, Int32.not_lt, Int32.not_le]; omega)
    have ec_z_4 : (z : ZZ) = (if tCol z co = 0 then dlcZ z (cl co) else z) := by first | rfl | omega | (simp [tCol, dlcZ, Int32.not_lt, Int32.not_le, c_6_0]; done) | (simp [tCol, dlcZ, Int32.not_lt, Int32.not_le, c_6_0]; omega) | (revert c_6_0; simp +contextual [tCol, dlcZ, Int32.not_lt, Int32.not_le]; done) | (revert c_6_0; simp +contextual [tCol, dlcZ, Int32.not_lt, Int32.not_le]; omega)
    have ec_st_5 : ((nI ns) : Int32) = (nI (if tCol z co = 0 then saveN ns else ns)) := by first | rfl | omega | (simp [tCol, dlcZ, Int32.not_lt, Int32.not_le, c_6_0]; done) | (simp [tCol, dlcZ, Int32.not_lt, Int32.not_le, c_6_0]; omega) | (revert c_6_0; simp +contextual [tCol, dlcZ, Int32.not_lt, Int32.not_le]; done) | (revert c_6_0; simp +contextual [tCol, dlcZ, Int32.not_lt, Int32.not_le]; omega)
    have ec_zh_6 : (zh : ZZ) = (if tCol z co = 0 then saveH z zh ns else zh) := by first | rfl | omega | (simp [tCol, dlcZ, Int32.not_lt, Int32.not_le, c_6_0]; done) | (simp [tCol, dlcZ, Int32.not_lt, Int32.not_le, c_6_0]; omega) | (revert c_6_0; simp +contextual [tCol, dlcZ, Int32.not_lt, Int32.not_le]; done) | (revert c_6_0; simp +contextual [tCol, dlcZ, Int32.not_lt, Int32.not_le]; omega)
    have ec_th_7 : ((nI 1) : Int32) = (nI (tCol z co)) := by first | rfl | omega | (simp [tCol, dlcZ, Int32.not_lt, Int32.not_le, c_6_0]; done) | (simp [tCol, dlcZ, Int32.not_lt, Int32.not_le, c_6_0]; omega) | (revert c_6_0; simp +contextual [tCol, dlcZ, Int32.not_lt, Int32.not_le]; done) | (revert c_6_0; simp +contextual [tCol, dlcZ, Int32.not_lt, Int32.not_le]; omega)
    have ew_8 : (MW a cI z (nI ns) zh (nI nl) tx (nI 1) pa rd nu pt wy za : va_W) = (MW a cI (if tCol z co = 0 then dlcZ z (cl co) else z) (nI (if tCol z co = 0 then saveN ns else ns)) (if tCol z co = 0 then saveH z zh ns else zh) (nI nl) tx (nI (tCol z co)) pa rd nu pt wy za) := mw_c ec_z_4 ec_st_5 ec_zh_6 rfl rfl ec_th_7 rfl rfl rfl rfl rfl rfl
    rw [ew_8] at hP hD
    subst hw0
    exact kq_iret hx hb hrt hlocks e_3 hP hD hS dX5_removeColumn_25
  · obtain ⟨k0, hk0, rfl⟩ := isCol_out hw c_6_1
    have hc_k0 : cl (nI k0) = k0 := cl_nI (show k0 < 2 ^ 31 by omega)
    refine lv_iconst (v := nI 0) hx hb dX5_removeColumn_9 (by decide) ?_
    refine lv_goto (tgt := 14) hx hb dX5_removeColumn_10 (by decide) ?_
    refine va_put (D := D) (ci := 5) (v := .int (nI 0)) (ty := .int) (C := RX5) (T := TX5) (N := 12) hx hb hts iX5_removeColumn_5 tyX5 tyX5_ok nmX5 hown hK hP hD hS 0 rfl rfl 5 (by decide) (hts (.fieldLink RX5 25 "HallSightsModel" "thrown" "I") (List.mem_of_getElem? (i := 1) rfl)) (fun _ h9 => h9) rfl (by decide +kernel) rfl rfl (Nat.le_of_ble_eq_true rfl) dX5_removeColumn_14 (fun H locs hP hD hS => ?_)
    have hP : va_P D vwCl (MW a cI z (nI ns) zh (nI nl) tx (nI 0) pa rd nu pt wy za) H := hP
    have hD : va_D (kA w0) (MW a cI z (nI ns) zh (nI nl) tx (nI 0) pa rd nu pt wy za) := hD
    refine lv_aload_n hx hb dX5_removeColumn_17 rfl (lv_at hl 0 rfl) ?_
    refine va_get (D := D) (ci := 5) (v := .int (nI 0)) (C := RX5) (T := TX5) (N := 12) hx hb hts iX5_removeColumn_5 hown hK hP 0 rfl rfl 5 (by decide) (hts (.fieldLink RX5 25 "HallSightsModel" "thrown" "I") (List.mem_of_getElem? (i := 1) rfl)) (fun _ h9 => h9) rfl dX5_removeColumn_18 ?_
    refine kx_if_le (tgt := 26) hx hb (by omega) dX5_removeColumn_21 (by decide) (fun c_21_9 => ?_) (fun c => absurd c (by omega))
    refine lv_aload_n hx hb dX5_removeColumn_26 rfl (lv_at hl 0 rfl) ?_
    refine kw_V (As := []) (rest := []) (C := RX5) (own := RX5) ⟨hx, hb, hml, hown, hts⟩ (c_X5_save l D cI cC cH cL a z zh tx pa wy ns nl (nI 0) rd nu pt za  (by first | assumption | omega)) (cwV 0 hts gX5_removeColumn_X5_save rfl rfl rfl k_X5_save ⟨Nat.le_of_ble_eq_true rfl, Nat.le_of_ble_eq_true rfl⟩) hP hD hK hS [0, 1, 2, 3, 4, 5] [] rfl rfl (wr := []) rfl (by decide) (by decide) (by decide) (va_recv (q := (RX5, TX5, 12)) hK hP (ci := 5) (q0 := 0) rfl rfl) rfl hl.1 rfl (Nat.le_of_ble_eq_true rfl) dX5_removeColumn_27 ⟨Nat.le_of_ble_eq_true rfl, Nat.le_of_ble_eq_true rfl⟩ (fun H locs hP hD hS => ?_)
    have hP : va_P D vwCl (MW a cI z (nI (saveN ns)) (saveH z zh ns) (nI nl) tx (nI 0) pa rd nu pt wy za) H := hP
    have hD : va_D (kA w0) (MW a cI z (nI (saveN ns)) (saveH z zh ns) (nI nl) tx (nI 0) pa rd nu pt wy za) := hD
    refine lv_aload_n hx hb dX5_removeColumn_30 rfl (lv_at hl 0 rfl) ?_
    refine va_get (D := D) (ci := 5) (v := .ref (a 1)) (C := RX5) (T := TX5) (N := 12) hx hb hts iX5_removeColumn_5 hown hK hP 0 rfl rfl 0 (by decide) (hts (.fieldLink RX5 7 "HallSightsModel" "z" "[I") (List.mem_of_getElem? (i := 2) rfl)) (fun _ h9 => h9) rfl dX5_removeColumn_31 ?_
    refine lv_iconst (v := nI 4) hx hb dX5_removeColumn_34 (by decide) ?_
    refine lv_dup2_11 hx hb dX5_removeColumn_35 rfl rfl ?_
    refine kx_iald hx hb hK hP 1 0 rfl rfl (by omega) (by decide) dX5_removeColumn_36 ?_
    refine kx_top (wf_C hw) ?_
    refine lv_iconst (v := nI 1) hx hb dX5_removeColumn_37 (by decide) ?_
    refine kx_isub hx hb (by omega) dX5_removeColumn_38 ?_
    refine kx_iast hx hb hK hP hD hS 1 0 rfl rfl (by omega) (by decide) dX5_removeColumn_39 (fun H locs hP hD hS => ?_)
    have hP : va_P D vwCl (MW a cI (upd z 4 (nI ((nC z) - 1))) (nI (saveN ns)) (saveH z zh ns) (nI nl) tx (nI 0) pa rd nu pt wy za) H := hP
    have hD : va_D (kA w0) (MW a cI (upd z 4 (nI ((nC z) - 1))) (nI (saveN ns)) (saveH z zh ns) (nI nl) tx (nI 0) pa rd nu pt wy za) := hD
    refine lv_bipush (v := nI 45) hx hb dX5_removeColumn_40 (by decide) ?_
    refine lv_iconst (v := nI 3) hx hb dX5_removeColumn_42 (by decide) ?_
    refine lv_iload_n hx hb dX5_removeColumn_43 rfl (lv_at hl 1 rfl) ?_
    refine kx_imul hx hb dX5_removeColumn_44 ?_
    refine kx_iadd hx hb dX5_removeColumn_45 ?_
    refine lv_istore_n (lv' := [(2, .int (nI (45 + (3 * k0)))), (0, .ref (a 0)), (1, .int (nI k0))]) hx hb dX5_removeColumn_46 rfl hl (by decide) rfl (fun ls hl => ?_)
    have e47_10 : (45 + (3 * k0) : Nat) = ((45 + 3 * k0)) := by first | rfl | omega | (simp [tCol, dlcZ, Int32.not_lt, Int32.not_le, c_6_1, hc_k0]; done) | (simp [tCol, dlcZ, Int32.not_lt, Int32.not_le, c_6_1, hc_k0]; omega) | (revert c_6_1 hc_k0; simp +contextual [tCol, dlcZ, Int32.not_lt, Int32.not_le]; done) | (revert c_6_1 hc_k0; simp +contextual [tCol, dlcZ, Int32.not_lt, Int32.not_le]; omega)
    have hl47_11 : lv_has ls 3 [(0, .ref (a 0)), (1, .int (nI k0)), (2, .int (nI (45 + 3 * k0)))] := lv_eqv (l1 := [(0, .ref (a 0)), (1, .int (nI k0)), (2, .int (nI (45 + (3 * k0))))]) (lv_sub hl [1, 2, 0] rfl) (lv_ce rfl (lv_ce rfl (lv_ce (congrArg (fun x => Value.int (nI x)) e47_10) rfl)))
    have ec_z_12 : ((upd z 4 (nI ((nC z) - 1))) : ZZ) = (dlcS z k0 (45 + 3 * k0)) := by funext jj; simp only [upd, dlcS]; (repeat' split) <;> first | rfl | omega | (exfalso; omega) | (congr 1; omega)
    have ew_13 : (MW a cI (upd z 4 (nI ((nC z) - 1))) (nI (saveN ns)) (saveH z zh ns) (nI nl) tx (nI 0) pa rd nu pt wy za : va_W) = (MW a cI (dlcS z k0 (45 + 3 * k0)) (nI (saveN ns)) (saveH z zh ns) (nI nl) tx (nI 0) pa rd nu pt wy za) := mw_c ec_z_12 rfl rfl rfl rfl rfl rfl rfl rfl rfl rfl rfl
    rw [ew_13] at hP hD
    refine kx_upW (fun k H locs ls => (va_P D vwCl (MW a cI (dlcS z k0 k) (nI (saveN ns)) (saveH z zh ns) (nI nl) tx (nI 0) pa rd nu pt wy za) H ∧ va_D (kA w0) (MW a cI (dlcS z k0 k) (nI (saveN ns)) (saveH z zh ns) (nI nl) tx (nI 0) pa rd nu pt wy za) ∧ va_S (kA w0) s.heap H locs) ∧ lv_has ls 3 [(0, .ref (a 0)), (1, .int (nI k0)), (2, .int (nI k))]) (45 + 3 * k0) (45 + 3 * (nC z - 1)) (by omega) _ _ ls ⟨⟨hP, hD, hS⟩, hl47_11⟩ ?_
    clear hP hD hS
    intro ik H locs ls hikl hikh hp ih47
    obtain ⟨⟨hP, hD, hS⟩, hp⟩ := hp
    have hl := hp
    refine lv_iload_n hx hb dX5_removeColumn_47 rfl (lv_at hl 2 rfl) ?_
    refine lv_bipush (v := nI 45) hx hb dX5_removeColumn_48 (by decide) ?_
    refine lv_iconst (v := nI 3) hx hb dX5_removeColumn_50 (by decide) ?_
    refine lv_aload_n hx hb dX5_removeColumn_51 rfl (lv_at hl 0 rfl) ?_
    refine va_get (D := D) (ci := 5) (v := .ref (a 1)) (C := RX5) (T := TX5) (N := 12) hx hb hts iX5_removeColumn_5 hown hK hP 0 rfl rfl 0 (by decide) (hts (.fieldLink RX5 7 "HallSightsModel" "z" "[I") (List.mem_of_getElem? (i := 2) rfl)) (fun _ h9 => h9) rfl dX5_removeColumn_52 ?_
    refine lv_iconst (v := nI 4) hx hb dX5_removeColumn_55 (by decide) ?_
    refine kx_iald hx hb hK hP 1 0 rfl rfl (by omega) (by decide) dX5_removeColumn_56 ?_
    refine kx_top (show ((dlcS z k0 ik) 4 : Int32) = nI (nC z - 1) from by (unfold dlcS; rw [if_pos rfl])) ?_
    refine kx_imul hx hb dX5_removeColumn_57 ?_
    refine kx_iadd hx hb dX5_removeColumn_58 ?_
    refine kx_icmp_ge (tgt := 82) hx hb (by omega) (by omega) dX5_removeColumn_59 (by decide) (fun c_59_14 => ?_) (fun c_59_15 => ?_)
    · have hq16 : 45 + 3 * (nC z - 1) = ik := by omega
      subst hq16
      refine lv_aload_n hx hb dX5_removeColumn_82 rfl (lv_at hl 0 rfl) ?_
      refine va_get (D := D) (ci := 5) (v := .ref (a 1)) (C := RX5) (T := TX5) (N := 12) hx hb hts iX5_removeColumn_5 hown hK hP 0 rfl rfl 0 (by decide) (hts (.fieldLink RX5 7 "HallSightsModel" "z" "[I") (List.mem_of_getElem? (i := 2) rfl)) (fun _ h9 => h9) rfl dX5_removeColumn_83 ?_
      refine lv_iconst (v := nI 4) hx hb dX5_removeColumn_86 (by decide) ?_
      refine kx_iald hx hb hK hP 1 0 rfl rfl (by omega) (by decide) dX5_removeColumn_87 ?_
      refine kx_top (show ((dlcS z k0 (45 + 3 * (nC z - 1))) 4 : Int32) = nI (nC z - 1) from by (unfold dlcS; rw [if_pos rfl])) ?_
      have e_17 : (nI (nC z - 1) : Int32) = (if tCol z (nI k0) = 0 then nI (nC z - 1) else nI 0) := by first | rfl | omega | (simp [tCol, dlcZ, Int32.not_lt, Int32.not_le, c_6_1, hc_k0, c_59_14, Nat.not_lt.mpr c_59_14]; done) | (simp [tCol, dlcZ, Int32.not_lt, Int32.not_le, c_6_1, hc_k0, c_59_14, Nat.not_lt.mpr c_59_14]; omega) | (revert c_6_1 hc_k0 c_59_14; simp +contextual [tCol, dlcZ, Int32.not_lt, Int32.not_le]; done) | (revert c_6_1 hc_k0 c_59_14; simp +contextual [tCol, dlcZ, Int32.not_lt, Int32.not_le]; omega)
      have ec_z_18 : ((dlcS z k0 (45 + 3 * (nC z - 1))) : ZZ) = (if tCol z (nI k0) = 0 then dlcZ z (cl (nI k0)) else z) := by first | rfl | omega | (simp [tCol, dlcZ, Int32.not_lt, Int32.not_le, c_6_1, hc_k0, c_59_14, Nat.not_lt.mpr c_59_14]; done) | (simp [tCol, dlcZ, Int32.not_lt, Int32.not_le, c_6_1, hc_k0, c_59_14, Nat.not_lt.mpr c_59_14]; omega) | (revert c_6_1 hc_k0 c_59_14; simp +contextual [tCol, dlcZ, Int32.not_lt, Int32.not_le]; done) | (revert c_6_1 hc_k0 c_59_14; simp +contextual [tCol, dlcZ, Int32.not_lt, Int32.not_le]; omega)
      have ec_st_19 : ((nI (saveN ns)) : Int32) = (nI (if tCol z (nI k0) = 0 then saveN ns else ns)) := by first | rfl | omega | (simp [tCol, dlcZ, Int32.not_lt, Int32.not_le, c_6_1, hc_k0, c_59_14, Nat.not_lt.mpr c_59_14]; done) | (simp [tCol, dlcZ, Int32.not_lt, Int32.not_le, c_6_1, hc_k0, c_59_14, Nat.not_lt.mpr c_59_14]; omega) | (revert c_6_1 hc_k0 c_59_14; simp +contextual [tCol, dlcZ, Int32.not_lt, Int32.not_le]; done) | (revert c_6_1 hc_k0 c_59_14; simp +contextual [tCol, dlcZ, Int32.not_lt, Int32.not_le]; omega)
      have ec_zh_20 : ((saveH z zh ns) : ZZ) = (if tCol z (nI k0) = 0 then saveH z zh ns else zh) := by first | rfl | omega | (simp [tCol, dlcZ, Int32.not_lt, Int32.not_le, c_6_1, hc_k0, c_59_14, Nat.not_lt.mpr c_59_14]; done) | (simp [tCol, dlcZ, Int32.not_lt, Int32.not_le, c_6_1, hc_k0, c_59_14, Nat.not_lt.mpr c_59_14]; omega) | (revert c_6_1 hc_k0 c_59_14; simp +contextual [tCol, dlcZ, Int32.not_lt, Int32.not_le]; done) | (revert c_6_1 hc_k0 c_59_14; simp +contextual [tCol, dlcZ, Int32.not_lt, Int32.not_le]; omega)
      have ec_th_21 : ((nI 0) : Int32) = (nI (tCol z (nI k0))) := by first | rfl | omega | (simp [tCol, dlcZ, Int32.not_lt, Int32.not_le, c_6_1, hc_k0, c_59_14, Nat.not_lt.mpr c_59_14]; done) | (simp [tCol, dlcZ, Int32.not_lt, Int32.not_le, c_6_1, hc_k0, c_59_14, Nat.not_lt.mpr c_59_14]; omega) | (revert c_6_1 hc_k0 c_59_14; simp +contextual [tCol, dlcZ, Int32.not_lt, Int32.not_le]; done) | (revert c_6_1 hc_k0 c_59_14; simp +contextual [tCol, dlcZ, Int32.not_lt, Int32.not_le]; omega)
      have ew_22 : (MW a cI (dlcS z k0 (45 + 3 * (nC z - 1))) (nI (saveN ns)) (saveH z zh ns) (nI nl) tx (nI 0) pa rd nu pt wy za : va_W) = (MW a cI (if tCol z (nI k0) = 0 then dlcZ z (cl (nI k0)) else z) (nI (if tCol z (nI k0) = 0 then saveN ns else ns)) (if tCol z (nI k0) = 0 then saveH z zh ns else zh) (nI nl) tx (nI (tCol z (nI k0))) pa rd nu pt wy za) := mw_c ec_z_18 ec_st_19 ec_zh_20 rfl rfl ec_th_21 rfl rfl rfl rfl rfl rfl
      rw [ew_22] at hP hD
      subst hw0
      exact kq_iret hx hb hrt hlocks e_17 hP hD hS dX5_removeColumn_88
    · refine lv_aload_n hx hb dX5_removeColumn_62 rfl (lv_at hl 0 rfl) ?_
      refine va_get (D := D) (ci := 5) (v := .ref (a 1)) (C := RX5) (T := TX5) (N := 12) hx hb hts iX5_removeColumn_5 hown hK hP 0 rfl rfl 0 (by decide) (hts (.fieldLink RX5 7 "HallSightsModel" "z" "[I") (List.mem_of_getElem? (i := 2) rfl)) (fun _ h9 => h9) rfl dX5_removeColumn_63 ?_
      refine lv_iload_n hx hb dX5_removeColumn_66 rfl (lv_at hl 2 rfl) ?_
      refine lv_aload_n hx hb dX5_removeColumn_67 rfl (lv_at hl 0 rfl) ?_
      refine va_get (D := D) (ci := 5) (v := .ref (a 1)) (C := RX5) (T := TX5) (N := 12) hx hb hts iX5_removeColumn_5 hown hK hP 0 rfl rfl 0 (by decide) (hts (.fieldLink RX5 7 "HallSightsModel" "z" "[I") (List.mem_of_getElem? (i := 2) rfl)) (fun _ h9 => h9) rfl dX5_removeColumn_68 ?_
      refine lv_iload_n hx hb dX5_removeColumn_71 rfl (lv_at hl 2 rfl) ?_
      refine lv_iconst (v := nI 3) hx hb dX5_removeColumn_72 (by decide) ?_
      refine kx_iadd hx hb dX5_removeColumn_73 ?_
      refine kx_iald hx hb hK hP 1 0 rfl rfl (by omega) (by decide) dX5_removeColumn_74 ?_
      refine kx_iast hx hb hK hP hD hS 1 0 rfl rfl (by omega) (by decide) dX5_removeColumn_75 (fun H locs hP hD hS => ?_)
      have hP : va_P D vwCl (MW a cI (upd (dlcS z k0 ik) ik ((dlcS z k0 ik) (ik + 3))) (nI (saveN ns)) (saveH z zh ns) (nI nl) tx (nI 0) pa rd nu pt wy za) H := hP
      have hD : va_D (kA w0) (MW a cI (upd (dlcS z k0 ik) ik ((dlcS z k0 ik) (ik + 3))) (nI (saveN ns)) (saveH z zh ns) (nI nl) tx (nI 0) pa rd nu pt wy za) := hD
      refine lv_iinc (v := nI (ik + 1)) (lv' := [(2, .int (nI (ik + 1))), (0, .ref (a 0)), (1, .int (nI k0))]) hx hb dX5_removeColumn_76 hl (k := 2) rfl (kx_inc 1) (by decide) rfl (fun ls hl => ?_)
      refine lv_goto (tgt := 47) hx hb dX5_removeColumn_79 (by decide) ?_
      have e47_23 : (ik + 1 : Nat) = ((ik + 1)) := by first | rfl | omega | (simp [tCol, dlcZ, Int32.not_lt, Int32.not_le, c_6_1, hc_k0, c_59_15, Nat.not_le.mpr c_59_15]; done) | (simp [tCol, dlcZ, Int32.not_lt, Int32.not_le, c_6_1, hc_k0, c_59_15, Nat.not_le.mpr c_59_15]; omega) | (revert c_6_1 hc_k0 c_59_15; simp +contextual [tCol, dlcZ, Int32.not_lt, Int32.not_le]; done) | (revert c_6_1 hc_k0 c_59_15; simp +contextual [tCol, dlcZ, Int32.not_lt, Int32.not_le]; omega)
      have hl47_24 : lv_has ls 3 [(0, .ref (a 0)), (1, .int (nI k0)), (2, .int (nI (ik + 1)))] := lv_eqv (l1 := [(0, .ref (a 0)), (1, .int (nI k0)), (2, .int (nI (ik + 1)))]) (lv_sub hl [1, 2, 0] rfl) (lv_ce rfl (lv_ce rfl (lv_ce (congrArg (fun x => Value.int (nI x)) e47_23) rfl)))
      have ec_z_25 : ((upd (dlcS z k0 ik) ik ((dlcS z k0 ik) (ik + 3))) : ZZ) = (dlcS z k0 (ik + 1)) := by funext jj; simp only [upd, dlcS]; (repeat' split) <;> first | rfl | omega | (exfalso; omega) | (congr 1; omega)
      have ew_26 : (MW a cI (upd (dlcS z k0 ik) ik ((dlcS z k0 ik) (ik + 3))) (nI (saveN ns)) (saveH z zh ns) (nI nl) tx (nI 0) pa rd nu pt wy za : va_W) = (MW a cI (dlcS z k0 (ik + 1)) (nI (saveN ns)) (saveH z zh ns) (nI nl) tx (nI 0) pa rd nu pt wy za) := mw_c ec_z_25 rfl rfl rfl rfl rfl rfl rfl rfl rfl rfl rfl
      rw [ew_26] at hP hD
      exact ih47 _ _ _ (by omega) ⟨⟨hP, hD, hS⟩, hl47_24⟩
set_option maxHeartbeats 4000000 in
set_option maxRecDepth 100000 in
theorem c_X5_isValue (l : Launch) (D : va_G) (cI cC cH cL : ClassId)  (st0 : Int32) (v0 : Int32)  : Met l yX5_isValue wsX5_isValue ({ frames := 1, cells := 0, slots := 0, locals := 22 }) (kp [.int st0, .int v0] D ([]) (kT cI cC cH cL)) (kr (.returned (some (.int (bI (isValB st0 v0)))))) 0 0 (fun _ => False) := by
  refine Met.ofW (cc := cX5_isValue) (maxL := 2) (ret := (some .boolean)) (by decide) rfl ?_
  intro p e s m args below meth c s₁ B hml hv
  obtain ⟨rfl, hP, hK⟩ := hv
  have hx := B.exec
  have hb := B.bytes
  have hrt := B.returns
  have hts := atoms_spec (ws := wsX5_isValue) B.pre
  have hown : s.vm.findClass RX5 = some m.cls := findClass_of_methodNamed B.named
  have hlocks := B.notSynchronized
  have hl := lv_entry ([.int st0, .int v0]) (n := 2) (Nat.le_of_ble_eq_true rfl)
  rw [lg_entry_eq]
  generalize (lg_sl ([.int st0, .int v0]) ++ List.replicate (2 - (lg_sl ([.int st0, .int v0])).length) Slot.unset).toArray = ls at hl ⊢
  have hl : lv_has ls 2 [(0, .int st0), (1, .int v0)] := hl
  refine lv_iload_n hx hb dX5_isValue_0 rfl (lv_at hl 0 rfl) ?_
  refine lv_if_ne (tgt := 15) hx hb dX5_isValue_1 (by decide) (fun c_1_0 => ?_) (fun c_1_1 => ?_)
  · have c_1_0 : ¬ (st0 : Int32) = 0 := c_1_0
    refine lv_iload_n hx hb dX5_isValue_15 rfl (lv_at hl 0 rfl) ?_
    refine lv_iconst (v := nI 1) hx hb dX5_isValue_16 (by decide) ?_
    refine lv_icmp_ne (tgt := 31) hx hb dX5_isValue_17 (by decide) (fun c_17_2 => ?_) (fun c_17_3 => ?_)
    · have c_17_2 : ¬ (st0 : Int32) = (nI 1) := c_17_2
      refine lv_iload_n hx hb dX5_isValue_31 rfl (lv_at hl 1 rfl) ?_
      refine lv_iconst (v := nI 0) hx hb dX5_isValue_32 (by decide) ?_
      refine lv_bipush (v := nI 100) hx hb dX5_isValue_33 (by decide) ?_
      refine kr_S (As := [.int v0, .int (nI 0), .int (nI 100)]) (rest := []) (own := RX5) ⟨hx, hb, hml, hown, hts⟩ (c_X5_within l D cI cC cH cL  v0 (nI 0) (nI 100) ) (va_cwS 3 hts gX5_isValue_X5_within rfl rfl rfl k_X5_withinS ⟨Nat.le_of_ble_eq_true rfl, Nat.le_of_ble_eq_true rfl⟩) hP hK rfl hl.1 rfl (Nat.le_of_ble_eq_true rfl) dX5_isValue_35 ⟨Nat.le_of_ble_eq_true rfl, Nat.le_of_ble_eq_true rfl⟩ ?_
      have e_4 : (wthn v0 (nI 0) (nI 100) : Bool) = (isValB st0 v0) := by first | rfl | omega | (simp [isValB, show ¬ nI 1 = (0 : Int32) from by decide, Int32.not_lt, Int32.not_le, c_1_0, c_17_2]; done) | (simp [isValB, show ¬ nI 1 = (0 : Int32) from by decide, Int32.not_lt, Int32.not_le, c_1_0, c_17_2]; omega) | (revert c_1_0 c_17_2; simp +contextual [isValB, show ¬ nI 1 = (0 : Int32) from by decide, Int32.not_lt, Int32.not_le]; done) | (revert c_1_0 c_17_2; simp +contextual [isValB, show ¬ nI 1 = (0 : Int32) from by decide, Int32.not_lt, Int32.not_le]; omega)
      exact kr_zret hx hb hrt hlocks (congrArg bI e_4) rfl dX5_isValue_38
    · have c_17_3 : (st0 : Int32) = (nI 1) := c_17_3
      refine lv_iload_n hx hb dX5_isValue_20 rfl (lv_at hl 1 rfl) ?_
      refine lv_iconst (v := nI 1) hx hb dX5_isValue_21 (by decide) ?_
      refine lv_sipush (v := nI 300) hx hb dX5_isValue_22 (by decide) ?_
      refine kr_S (As := [.int v0, .int (nI 1), .int (nI 300)]) (rest := []) (own := RX5) ⟨hx, hb, hml, hown, hts⟩ (c_X5_within l D cI cC cH cL  v0 (nI 1) (nI 300) ) (va_cwS 3 hts gX5_isValue_X5_within rfl rfl rfl k_X5_withinS ⟨Nat.le_of_ble_eq_true rfl, Nat.le_of_ble_eq_true rfl⟩) hP hK rfl hl.1 rfl (Nat.le_of_ble_eq_true rfl) dX5_isValue_25 ⟨Nat.le_of_ble_eq_true rfl, Nat.le_of_ble_eq_true rfl⟩ ?_
      refine lv_goto (tgt := 38) hx hb dX5_isValue_28 (by decide) ?_
      have e_5 : (wthn v0 (nI 1) (nI 300) : Bool) = (isValB st0 v0) := by first | rfl | omega | (simp [isValB, show ¬ nI 1 = (0 : Int32) from by decide, Int32.not_lt, Int32.not_le, c_1_0, c_17_3]; done) | (simp [isValB, show ¬ nI 1 = (0 : Int32) from by decide, Int32.not_lt, Int32.not_le, c_1_0, c_17_3]; omega) | (revert c_1_0 c_17_3; simp +contextual [isValB, show ¬ nI 1 = (0 : Int32) from by decide, Int32.not_lt, Int32.not_le]; done) | (revert c_1_0 c_17_3; simp +contextual [isValB, show ¬ nI 1 = (0 : Int32) from by decide, Int32.not_lt, Int32.not_le]; omega)
      exact kr_zret hx hb hrt hlocks (congrArg bI e_5) rfl dX5_isValue_38
  · have c_1_1 : (st0 : Int32) = 0 := c_1_1
    refine lv_iload_n hx hb dX5_isValue_4 rfl (lv_at hl 1 rfl) ?_
    refine lv_iconst (v := nI 0) hx hb dX5_isValue_5 (by decide) ?_
    refine lv_sipush (v := nI 999) hx hb dX5_isValue_6 (by decide) ?_
    refine kr_S (As := [.int v0, .int (nI 0), .int (nI 999)]) (rest := []) (own := RX5) ⟨hx, hb, hml, hown, hts⟩ (c_X5_within l D cI cC cH cL  v0 (nI 0) (nI 999) ) (va_cwS 3 hts gX5_isValue_X5_within rfl rfl rfl k_X5_withinS ⟨Nat.le_of_ble_eq_true rfl, Nat.le_of_ble_eq_true rfl⟩) hP hK rfl hl.1 rfl (Nat.le_of_ble_eq_true rfl) dX5_isValue_9 ⟨Nat.le_of_ble_eq_true rfl, Nat.le_of_ble_eq_true rfl⟩ ?_
    refine lv_goto (tgt := 38) hx hb dX5_isValue_12 (by decide) ?_
    have e_6 : (wthn v0 (nI 0) (nI 999) : Bool) = (isValB st0 v0) := by first | rfl | omega | (simp [isValB, show ¬ nI 1 = (0 : Int32) from by decide, Int32.not_lt, Int32.not_le, c_1_1]; done) | (simp [isValB, show ¬ nI 1 = (0 : Int32) from by decide, Int32.not_lt, Int32.not_le, c_1_1]; omega) | (revert c_1_1; simp +contextual [isValB, show ¬ nI 1 = (0 : Int32) from by decide, Int32.not_lt, Int32.not_le]; done) | (revert c_1_1; simp +contextual [isValB, show ¬ nI 1 = (0 : Int32) from by decide, Int32.not_lt, Int32.not_le]; omega)
    exact kr_zret hx hb hrt hlocks (congrArg bI e_6) rfl dX5_isValue_38
set_option maxRecDepth 20000 in
theorem iX5_set_5 : ∀ w ∈ wsX50, w ∈ wsX5_set := by decide +kernel
set_option maxHeartbeats 4000000 in
set_option maxRecDepth 100000 in
theorem c_X5_set (l : Launch) (D : va_G) (cI cC cH cL : ClassId) (a : Nat → Nat) (z zh tx pa wy : ZZ) (ns nl : Nat) (th rd nu pt : Int32) (za : Int64) (st0 : Int32) (v0 : Int32) (hw : WF z) (hn : ns ≤ 6) : Met l yX5_set wsX5_set ({ frames := 2, cells := 0, slots := 0, locals := 43 }) (kw [.ref (a 0), .int st0, .int v0] D (MW a cI z (nI ns) zh (nI nl) tx th pa rd nu pt wy za) (kT cI cC cH cL)) (kq D (MW a cI z (nI ns) zh (nI nl) tx th pa rd nu pt wy za) (MW a cI (if tSet st0 v0 = 0 then upd z (cl st0) v0 else z) (nI (if tSet st0 v0 = 0 then saveN ns else ns)) (if tSet st0 v0 = 0 then saveH z zh ns else zh) (nI nl) tx (nI (tSet st0 v0)) pa rd nu pt wy za) (.returned (some (.int (if tSet st0 v0 = 0 then z (cl st0) else nI 0))))) 0 0 (kA (MW a cI z (nI ns) zh (nI nl) tx th pa rd nu pt wy za)) := by
  refine Met.ofW (cc := cX5_set) (maxL := 4) (ret := (some .int)) (by decide) rfl ?_
  intro p e s m args below meth c s₁ B hml hv
  obtain ⟨rfl, hP, hK, hD0⟩ := hv
  have hx := B.exec
  have hb := B.bytes
  have hrt := B.returns
  have hts := atoms_spec (ws := wsX5_set) B.pre
  have hown : s.vm.findClass RX5 = some m.cls := findClass_of_methodNamed B.named
  have hlocks := B.notSynchronized
  have hl := lv_entry ([.ref (a 0), .int st0, .int v0]) (n := 4) (Nat.le_of_ble_eq_true rfl)
  rw [lg_entry_eq]
  generalize (lg_sl ([.ref (a 0), .int st0, .int v0]) ++ List.replicate (4 - (lg_sl ([.ref (a 0), .int st0, .int v0])).length) Slot.unset).toArray = ls at hl ⊢
  have hl : lv_has ls 4 [(0, .ref (a 0)), (1, .int st0), (2, .int v0)] := hl
  have hD := kA_self hD0
  obtain ⟨w0, hw0⟩ : ∃ w : va_W, w = MW a cI z (nI ns) zh (nI nl) tx th pa rd nu pt wy za := ⟨_, rfl⟩
  have hD : va_D (kA w0) (MW a cI z (nI ns) zh (nI nl) tx th pa rd nu pt wy za) := by rw [hw0]; exact hD
  have hS : va_S (kA w0) s.heap s.heap [] := va_S.rf
  rw [show kA (MW a cI z (nI ns) zh (nI nl) tx th pa rd nu pt wy za) = kA w0 from by rw [hw0], show kq D (MW a cI z (nI ns) zh (nI nl) tx th pa rd nu pt wy za) = kq D w0 from by rw [hw0]]
  have hP : va_P D vwCl (MW a cI z (nI ns) zh (nI nl) tx th pa rd nu pt wy za) s.heap := hP
  have hR10 := wf_R10 hw
  have hC4 := wf_C4 hw
  refine lv_aload_n hx hb dX5_set_0 rfl (lv_at hl 0 rfl) ?_
  refine lv_iload_n hx hb dX5_set_1 rfl (lv_at hl 1 rfl) ?_
  refine kr_S (As := [.int st0]) (rest := [.ref (a 0)]) (own := RX5) ⟨hx, hb, hml, hown, hts⟩ (c_X5_isSetting l D cI cC cH cL  st0 ) (va_cwS 1 hts gX5_set_X5_isSetting rfl rfl rfl k_X5_isSettingS ⟨Nat.le_of_ble_eq_true rfl, Nat.le_of_ble_eq_true rfl⟩) (hP.sub (ws' := []) [] rfl) hK rfl hl.1 rfl (Nat.le_of_ble_eq_true rfl) dX5_set_2 ⟨Nat.le_of_ble_eq_true rfl, Nat.le_of_ble_eq_true rfl⟩ ?_
  refine kx_if_neb (tgt := 12) hx hb dX5_set_5 (by decide) (fun c_5_0 => ?_) (fun c_5_1 => ?_)
  · obtain ⟨q0, hq0, rfl⟩ := wthn3_out c_5_0
    have hc_q0 : cl (nI q0) = q0 := cl_nI (show q0 < 2 ^ 31 by omega)
    refine lv_iload_n hx hb dX5_set_12 rfl (lv_at hl 1 rfl) ?_
    refine lv_iload_n hx hb dX5_set_13 rfl (lv_at hl 2 rfl) ?_
    refine kr_S (As := [.int (nI q0), .int v0]) (rest := [.ref (a 0)]) (own := RX5) ⟨hx, hb, hml, hown, hts⟩ (c_X5_isValue l D cI cC cH cL  (nI q0) v0 ) (va_cwS 2 hts gX5_set_X5_isValue rfl rfl rfl k_X5_isValueS ⟨Nat.le_of_ble_eq_true rfl, Nat.le_of_ble_eq_true rfl⟩) (hP.sub (ws' := []) [] rfl) hK rfl hl.1 rfl (Nat.le_of_ble_eq_true rfl) dX5_set_14 ⟨Nat.le_of_ble_eq_true rfl, Nat.le_of_ble_eq_true rfl⟩ ?_
    refine kx_if_eqb (tgt := 24) hx hb dX5_set_17 (by decide) (fun c_17_2 => ?_) (fun c_17_3 => ?_)
    · refine lv_iconst (v := nI 2) hx hb dX5_set_24 (by decide) ?_
      refine va_put (D := D) (ci := 5) (v := .int (nI 2)) (ty := .int) (C := RX5) (T := TX5) (N := 12) hx hb hts iX5_set_5 tyX5 tyX5_ok nmX5 hown hK hP hD hS 0 rfl rfl 5 (by decide) (hts (.fieldLink RX5 25 "HallSightsModel" "thrown" "I") (List.mem_of_getElem? (i := 1) rfl)) (fun _ h9 => h9) rfl (by decide +kernel) rfl rfl (Nat.le_of_ble_eq_true rfl) dX5_set_25 (fun H locs hP hD hS => ?_)
      have hP : va_P D vwCl (MW a cI z (nI ns) zh (nI nl) tx (nI 2) pa rd nu pt wy za) H := hP
      have hD : va_D (kA w0) (MW a cI z (nI ns) zh (nI nl) tx (nI 2) pa rd nu pt wy za) := hD
      refine lv_aload_n hx hb dX5_set_28 rfl (lv_at hl 0 rfl) ?_
      refine va_get (D := D) (ci := 5) (v := .int (nI 2)) (C := RX5) (T := TX5) (N := 12) hx hb hts iX5_set_5 hown hK hP 0 rfl rfl 5 (by decide) (hts (.fieldLink RX5 25 "HallSightsModel" "thrown" "I") (List.mem_of_getElem? (i := 1) rfl)) (fun _ h9 => h9) rfl dX5_set_29 ?_
      refine kx_if_le (tgt := 37) hx hb (by omega) dX5_set_32 (by decide) (fun c => absurd c (by omega)) (fun c_32_4 => ?_)
      refine lv_iconst (v := nI 0) hx hb dX5_set_35 (by decide) ?_
      have e_5 : (nI 0 : Int32) = (if tSet (nI q0) v0 = 0 then z (cl (nI q0)) else nI 0) := by first | rfl | omega | (simp [tSet, Int32.not_lt, Int32.not_le, c_5_0, hc_q0, c_17_2]; done) | (simp [tSet, Int32.not_lt, Int32.not_le, c_5_0, hc_q0, c_17_2]; omega) | (revert c_5_0 hc_q0 c_17_2; simp +contextual [tSet, Int32.not_lt, Int32.not_le]; done) | (revert c_5_0 hc_q0 c_17_2; simp +contextual [tSet, Int32.not_lt, Int32.not_le]; omega)
      have ec_z_6 : (z : ZZ) = (if tSet (nI q0) v0 = 0 then upd z (cl (nI q0)) v0 else z) := by first | rfl | omega | (simp [tSet, Int32.not_lt, Int32.not_le, c_5_0, hc_q0, c_17_2]; done) | (simp [tSet, Int32.not_lt, Int32.not_le, c_5_0, hc_q0, c_17_2]; omega) | (revert c_5_0 hc_q0 c_17_2; simp +contextual [tSet, Int32.not_lt, Int32.not_le]; done) | (revert c_5_0 hc_q0 c_17_2; simp +contextual [tSet, Int32.not_lt, Int32.not_le]; omega)
      have ec_st_7 : ((nI ns) : Int32) = (nI (if tSet (nI q0) v0 = 0 then saveN ns else ns)) := by first | rfl | omega | (simp [tSet, Int32.not_lt, Int32.not_le, c_5_0, hc_q0, c_17_2]; done) | (simp [tSet, Int32.not_lt, Int32.not_le, c_5_0, hc_q0, c_17_2]; omega) | (revert c_5_0 hc_q0 c_17_2; simp +contextual [tSet, Int32.not_lt, Int32.not_le]; done) | (revert c_5_0 hc_q0 c_17_2; simp +contextual [tSet, Int32.not_lt, Int32.not_le]; omega)
      have ec_zh_8 : (zh : ZZ) = (if tSet (nI q0) v0 = 0 then saveH z zh ns else zh) := by first | rfl | omega | (simp [tSet, Int32.not_lt, Int32.not_le, c_5_0, hc_q0, c_17_2]; done) | (simp [tSet, Int32.not_lt, Int32.not_le, c_5_0, hc_q0, c_17_2]; omega) | (revert c_5_0 hc_q0 c_17_2; simp +contextual [tSet, Int32.not_lt, Int32.not_le]; done) | (revert c_5_0 hc_q0 c_17_2; simp +contextual [tSet, Int32.not_lt, Int32.not_le]; omega)
      have ec_th_9 : ((nI 2) : Int32) = (nI (tSet (nI q0) v0)) := by first | rfl | omega | (simp [tSet, Int32.not_lt, Int32.not_le, c_5_0, hc_q0, c_17_2]; done) | (simp [tSet, Int32.not_lt, Int32.not_le, c_5_0, hc_q0, c_17_2]; omega) | (revert c_5_0 hc_q0 c_17_2; simp +contextual [tSet, Int32.not_lt, Int32.not_le]; done) | (revert c_5_0 hc_q0 c_17_2; simp +contextual [tSet, Int32.not_lt, Int32.not_le]; omega)
      have ew_10 : (MW a cI z (nI ns) zh (nI nl) tx (nI 2) pa rd nu pt wy za : va_W) = (MW a cI (if tSet (nI q0) v0 = 0 then upd z (cl (nI q0)) v0 else z) (nI (if tSet (nI q0) v0 = 0 then saveN ns else ns)) (if tSet (nI q0) v0 = 0 then saveH z zh ns else zh) (nI nl) tx (nI (tSet (nI q0) v0)) pa rd nu pt wy za) := mw_c ec_z_6 ec_st_7 ec_zh_8 rfl rfl ec_th_9 rfl rfl rfl rfl rfl rfl
      rw [ew_10] at hP hD
      subst hw0
      exact kq_iret hx hb hrt hlocks e_5 hP hD hS dX5_set_36
    · refine lv_iconst (v := nI 0) hx hb dX5_set_20 (by decide) ?_
      refine lv_goto (tgt := 25) hx hb dX5_set_21 (by decide) ?_
      refine va_put (D := D) (ci := 5) (v := .int (nI 0)) (ty := .int) (C := RX5) (T := TX5) (N := 12) hx hb hts iX5_set_5 tyX5 tyX5_ok nmX5 hown hK hP hD hS 0 rfl rfl 5 (by decide) (hts (.fieldLink RX5 25 "HallSightsModel" "thrown" "I") (List.mem_of_getElem? (i := 1) rfl)) (fun _ h9 => h9) rfl (by decide +kernel) rfl rfl (Nat.le_of_ble_eq_true rfl) dX5_set_25 (fun H locs hP hD hS => ?_)
      have hP : va_P D vwCl (MW a cI z (nI ns) zh (nI nl) tx (nI 0) pa rd nu pt wy za) H := hP
      have hD : va_D (kA w0) (MW a cI z (nI ns) zh (nI nl) tx (nI 0) pa rd nu pt wy za) := hD
      refine lv_aload_n hx hb dX5_set_28 rfl (lv_at hl 0 rfl) ?_
      refine va_get (D := D) (ci := 5) (v := .int (nI 0)) (C := RX5) (T := TX5) (N := 12) hx hb hts iX5_set_5 hown hK hP 0 rfl rfl 5 (by decide) (hts (.fieldLink RX5 25 "HallSightsModel" "thrown" "I") (List.mem_of_getElem? (i := 1) rfl)) (fun _ h9 => h9) rfl dX5_set_29 ?_
      refine kx_if_le (tgt := 37) hx hb (by omega) dX5_set_32 (by decide) (fun c_32_11 => ?_) (fun c => absurd c (by omega))
      refine lv_aload_n hx hb dX5_set_37 rfl (lv_at hl 0 rfl) ?_
      refine kw_V (As := []) (rest := []) (C := RX5) (own := RX5) ⟨hx, hb, hml, hown, hts⟩ (c_X5_save l D cI cC cH cL a z zh tx pa wy ns nl (nI 0) rd nu pt za  (by first | assumption | omega)) (cwV 0 hts gX5_set_X5_save rfl rfl rfl k_X5_save ⟨Nat.le_of_ble_eq_true rfl, Nat.le_of_ble_eq_true rfl⟩) hP hD hK hS [0, 1, 2, 3, 4, 5] [] rfl rfl (wr := []) rfl (by decide) (by decide) (by decide) (va_recv (q := (RX5, TX5, 12)) hK hP (ci := 5) (q0 := 0) rfl rfl) rfl hl.1 rfl (Nat.le_of_ble_eq_true rfl) dX5_set_38 ⟨Nat.le_of_ble_eq_true rfl, Nat.le_of_ble_eq_true rfl⟩ (fun H locs hP hD hS => ?_)
      have hP : va_P D vwCl (MW a cI z (nI (saveN ns)) (saveH z zh ns) (nI nl) tx (nI 0) pa rd nu pt wy za) H := hP
      have hD : va_D (kA w0) (MW a cI z (nI (saveN ns)) (saveH z zh ns) (nI nl) tx (nI 0) pa rd nu pt wy za) := hD
      refine lv_aload_n hx hb dX5_set_41 rfl (lv_at hl 0 rfl) ?_
      refine va_get (D := D) (ci := 5) (v := .ref (a 1)) (C := RX5) (T := TX5) (N := 12) hx hb hts iX5_set_5 hown hK hP 0 rfl rfl 0 (by decide) (hts (.fieldLink RX5 7 "HallSightsModel" "z" "[I") (List.mem_of_getElem? (i := 2) rfl)) (fun _ h9 => h9) rfl dX5_set_42 ?_
      refine lv_iload_n hx hb dX5_set_45 rfl (lv_at hl 1 rfl) ?_
      refine kx_iald hx hb hK hP 1 0 rfl rfl (by omega) (by decide) dX5_set_46 ?_
      refine lv_istore_n (lv' := [(3, .int (z q0)), (0, .ref (a 0)), (1, .int (nI q0)), (2, .int v0)]) hx hb dX5_set_47 rfl hl (by decide) rfl (fun ls hl => ?_)
      refine lv_aload_n hx hb dX5_set_48 rfl (lv_at hl 1 rfl) ?_
      refine va_get (D := D) (ci := 5) (v := .ref (a 1)) (C := RX5) (T := TX5) (N := 12) hx hb hts iX5_set_5 hown hK hP 0 rfl rfl 0 (by decide) (hts (.fieldLink RX5 7 "HallSightsModel" "z" "[I") (List.mem_of_getElem? (i := 2) rfl)) (fun _ h9 => h9) rfl dX5_set_49 ?_
      refine lv_iload_n hx hb dX5_set_52 rfl (lv_at hl 2 rfl) ?_
      refine lv_iload_n hx hb dX5_set_53 rfl (lv_at hl 3 rfl) ?_
      refine kx_iast hx hb hK hP hD hS 1 0 rfl rfl (by omega) (by decide) dX5_set_54 (fun H locs hP hD hS => ?_)
      have hP : va_P D vwCl (MW a cI (upd z q0 v0) (nI (saveN ns)) (saveH z zh ns) (nI nl) tx (nI 0) pa rd nu pt wy za) H := hP
      have hD : va_D (kA w0) (MW a cI (upd z q0 v0) (nI (saveN ns)) (saveH z zh ns) (nI nl) tx (nI 0) pa rd nu pt wy za) := hD
      refine lv_iload_n hx hb dX5_set_55 rfl (lv_at hl 0 rfl) ?_
      have e_12 : (z q0 : Int32) = (if tSet (nI q0) v0 = 0 then z (cl (nI q0)) else nI 0) := by first | rfl | omega | (simp [tSet, Int32.not_lt, Int32.not_le, c_5_0, hc_q0, c_17_3]; done) | (simp [tSet, Int32.not_lt, Int32.not_le, c_5_0, hc_q0, c_17_3]; omega) | (revert c_5_0 hc_q0 c_17_3; simp +contextual [tSet, Int32.not_lt, Int32.not_le]; done) | (revert c_5_0 hc_q0 c_17_3; simp +contextual [tSet, Int32.not_lt, Int32.not_le]; omega)
      have ec_z_13 : ((upd z q0 v0) : ZZ) = (if tSet (nI q0) v0 = 0 then upd z (cl (nI q0)) v0 else z) := by first | rfl | omega | (simp [tSet, Int32.not_lt, Int32.not_le, c_5_0, hc_q0, c_17_3]; done) | (simp [tSet, Int32.not_lt, Int32.not_le, c_5_0, hc_q0, c_17_3]; omega) | (revert c_5_0 hc_q0 c_17_3; simp +contextual [tSet, Int32.not_lt, Int32.not_le]; done) | (revert c_5_0 hc_q0 c_17_3; simp +contextual [tSet, Int32.not_lt, Int32.not_le]; omega)
      have ec_st_14 : ((nI (saveN ns)) : Int32) = (nI (if tSet (nI q0) v0 = 0 then saveN ns else ns)) := by first | rfl | omega | (simp [tSet, Int32.not_lt, Int32.not_le, c_5_0, hc_q0, c_17_3]; done) | (simp [tSet, Int32.not_lt, Int32.not_le, c_5_0, hc_q0, c_17_3]; omega) | (revert c_5_0 hc_q0 c_17_3; simp +contextual [tSet, Int32.not_lt, Int32.not_le]; done) | (revert c_5_0 hc_q0 c_17_3; simp +contextual [tSet, Int32.not_lt, Int32.not_le]; omega)
      have ec_zh_15 : ((saveH z zh ns) : ZZ) = (if tSet (nI q0) v0 = 0 then saveH z zh ns else zh) := by first | rfl | omega | (simp [tSet, Int32.not_lt, Int32.not_le, c_5_0, hc_q0, c_17_3]; done) | (simp [tSet, Int32.not_lt, Int32.not_le, c_5_0, hc_q0, c_17_3]; omega) | (revert c_5_0 hc_q0 c_17_3; simp +contextual [tSet, Int32.not_lt, Int32.not_le]; done) | (revert c_5_0 hc_q0 c_17_3; simp +contextual [tSet, Int32.not_lt, Int32.not_le]; omega)
      have ec_th_16 : ((nI 0) : Int32) = (nI (tSet (nI q0) v0)) := by first | rfl | omega | (simp [tSet, Int32.not_lt, Int32.not_le, c_5_0, hc_q0, c_17_3]; done) | (simp [tSet, Int32.not_lt, Int32.not_le, c_5_0, hc_q0, c_17_3]; omega) | (revert c_5_0 hc_q0 c_17_3; simp +contextual [tSet, Int32.not_lt, Int32.not_le]; done) | (revert c_5_0 hc_q0 c_17_3; simp +contextual [tSet, Int32.not_lt, Int32.not_le]; omega)
      have ew_17 : (MW a cI (upd z q0 v0) (nI (saveN ns)) (saveH z zh ns) (nI nl) tx (nI 0) pa rd nu pt wy za : va_W) = (MW a cI (if tSet (nI q0) v0 = 0 then upd z (cl (nI q0)) v0 else z) (nI (if tSet (nI q0) v0 = 0 then saveN ns else ns)) (if tSet (nI q0) v0 = 0 then saveH z zh ns else zh) (nI nl) tx (nI (tSet (nI q0) v0)) pa rd nu pt wy za) := mw_c ec_z_13 ec_st_14 ec_zh_15 rfl rfl ec_th_16 rfl rfl rfl rfl rfl rfl
      rw [ew_17] at hP hD
      subst hw0
      exact kq_iret hx hb hrt hlocks e_12 hP hD hS dX5_set_56
  · refine lv_iconst (v := nI 1) hx hb dX5_set_8 (by decide) ?_
    refine lv_goto (tgt := 25) hx hb dX5_set_9 (by decide) ?_
    refine va_put (D := D) (ci := 5) (v := .int (nI 1)) (ty := .int) (C := RX5) (T := TX5) (N := 12) hx hb hts iX5_set_5 tyX5 tyX5_ok nmX5 hown hK hP hD hS 0 rfl rfl 5 (by decide) (hts (.fieldLink RX5 25 "HallSightsModel" "thrown" "I") (List.mem_of_getElem? (i := 1) rfl)) (fun _ h9 => h9) rfl (by decide +kernel) rfl rfl (Nat.le_of_ble_eq_true rfl) dX5_set_25 (fun H locs hP hD hS => ?_)
    have hP : va_P D vwCl (MW a cI z (nI ns) zh (nI nl) tx (nI 1) pa rd nu pt wy za) H := hP
    have hD : va_D (kA w0) (MW a cI z (nI ns) zh (nI nl) tx (nI 1) pa rd nu pt wy za) := hD
    refine lv_aload_n hx hb dX5_set_28 rfl (lv_at hl 0 rfl) ?_
    refine va_get (D := D) (ci := 5) (v := .int (nI 1)) (C := RX5) (T := TX5) (N := 12) hx hb hts iX5_set_5 hown hK hP 0 rfl rfl 5 (by decide) (hts (.fieldLink RX5 25 "HallSightsModel" "thrown" "I") (List.mem_of_getElem? (i := 1) rfl)) (fun _ h9 => h9) rfl dX5_set_29 ?_
    refine kx_if_le (tgt := 37) hx hb (by omega) dX5_set_32 (by decide) (fun c => absurd c (by omega)) (fun c_32_18 => ?_)
    refine lv_iconst (v := nI 0) hx hb dX5_set_35 (by decide) ?_
    have e_19 : (nI 0 : Int32) = (if tSet st0 v0 = 0 then z (cl st0) else nI 0) := by first | rfl | omega | (simp [tSet, Int32.not_lt, Int32.not_le, c_5_1]; done) | (simp [tSet, Int32.not_lt, Int32.not_le, c_5_1]; omega) | (revert c_5_1; simp +contextual [tSet, Int32.not_lt, Int32.not_le]; done) | (revert c_5_1; simp +contextual [tSet, Int32.not_lt, Int32.not_le]; omega)
    have ec_z_20 : (z : ZZ) = (if tSet st0 v0 = 0 then upd z (cl st0) v0 else z) := by first | rfl | omega | (simp [tSet, Int32.not_lt, Int32.not_le, c_5_1]; done) | (simp [tSet, Int32.not_lt, Int32.not_le, c_5_1]; omega) | (revert c_5_1; simp +contextual [tSet, Int32.not_lt, Int32.not_le]; done) | (revert c_5_1; simp +contextual [tSet, Int32.not_lt, Int32.not_le]; omega)
    have ec_st_21 : ((nI ns) : Int32) = (nI (if tSet st0 v0 = 0 then saveN ns else ns)) := by first | rfl | omega | (simp [tSet, Int32.not_lt, Int32.not_le, c_5_1]; done) | (simp [tSet, Int32.not_lt, Int32.not_le, c_5_1]; omega) | (revert c_5_1; simp +contextual [tSet, Int32.not_lt, Int32.not_le]; done) | (revert c_5_1; simp +contextual [tSet, Int32.not_lt, Int32.not_le]; omega)
    have ec_zh_22 : (zh : ZZ) = (if tSet st0 v0 = 0 then saveH z zh ns else zh) := by first | rfl | omega | (simp [tSet, Int32.not_lt, Int32.not_le, c_5_1]; done) | (simp [tSet, Int32.not_lt, Int32.not_le, c_5_1]; omega) | (revert c_5_1; simp +contextual [tSet, Int32.not_lt, Int32.not_le]; done) | (revert c_5_1; simp +contextual [tSet, Int32.not_lt, Int32.not_le]; omega)
    have ec_th_23 : ((nI 1) : Int32) = (nI (tSet st0 v0)) := by first | rfl | omega | (simp [tSet, Int32.not_lt, Int32.not_le, c_5_1]; done) | (simp [tSet, Int32.not_lt, Int32.not_le, c_5_1]; omega) | (revert c_5_1; simp +contextual [tSet, Int32.not_lt, Int32.not_le]; done) | (revert c_5_1; simp +contextual [tSet, Int32.not_lt, Int32.not_le]; omega)
    have ew_24 : (MW a cI z (nI ns) zh (nI nl) tx (nI 1) pa rd nu pt wy za : va_W) = (MW a cI (if tSet st0 v0 = 0 then upd z (cl st0) v0 else z) (nI (if tSet st0 v0 = 0 then saveN ns else ns)) (if tSet st0 v0 = 0 then saveH z zh ns else zh) (nI nl) tx (nI (tSet st0 v0)) pa rd nu pt wy za) := mw_c ec_z_20 ec_st_21 ec_zh_22 rfl rfl ec_th_23 rfl rfl rfl rfl rfl rfl
    rw [ew_24] at hP hD
    subst hw0
    exact kq_iret hx hb hrt hlocks e_19 hP hD hS dX5_set_36
set_option maxRecDepth 20000 in
theorem iX5_take_5 : ∀ w ∈ wsX50, w ∈ wsX5_take := by decide +kernel
set_option maxHeartbeats 4000000 in
set_option maxRecDepth 100000 in
theorem c_X5_take (l : Launch) (D : va_G) (cI cC cH cL : ClassId) (a : Nat → Nat) (z zh tx pa wy : ZZ) (ns nl : Nat) (th rd nu pt : Int32) (za : Int64) (ro : Int32) (se : Int32) (hw : WF z) (hn : ns ≤ 6) : Met l yX5_take wsX5_take ({ frames := 4, cells := 0, slots := 0, locals := 96 }) (kw [.ref (a 0), .int ro, .int se] D (MW a cI z (nI ns) zh (nI nl) tx th pa rd nu pt wy za) (kT cI cC cH cL)) (kq D (MW a cI z (nI ns) zh (nI nl) tx th pa rd nu pt wy za) (MW a cI (if tTake z ro se = 0 then takeZ z (cl ro) (cl se) else z) (nI (if tTake z ro se = 0 then saveN ns else ns)) (if tTake z ro se = 0 then saveH z zh ns else zh) (nI nl) tx (nI (tTake z ro se)) pa rd nu pt wy za) (.returned (some (.int (if tTake z ro se = 0 then nI (people (takeZ z (cl ro) (cl se)) (cl ro) (cl se)) else nI 0))))) 0 0 (kA (MW a cI z (nI ns) zh (nI nl) tx th pa rd nu pt wy za)) := by
  refine Met.ofW (cc := cX5_take) (maxL := 3) (ret := (some .int)) (by decide) rfl ?_
  intro p e s m args below meth c s₁ B hml hv
  obtain ⟨rfl, hP, hK, hD0⟩ := hv
  have hx := B.exec
  have hb := B.bytes
  have hrt := B.returns
  have hts := atoms_spec (ws := wsX5_take) B.pre
  have hown : s.vm.findClass RX5 = some m.cls := findClass_of_methodNamed B.named
  have hlocks := B.notSynchronized
  have hl := lv_entry ([.ref (a 0), .int ro, .int se]) (n := 3) (Nat.le_of_ble_eq_true rfl)
  rw [lg_entry_eq]
  generalize (lg_sl ([.ref (a 0), .int ro, .int se]) ++ List.replicate (3 - (lg_sl ([.ref (a 0), .int ro, .int se])).length) Slot.unset).toArray = ls at hl ⊢
  have hl : lv_has ls 3 [(0, .ref (a 0)), (1, .int ro), (2, .int se)] := hl
  have hD := kA_self hD0
  obtain ⟨w0, hw0⟩ : ∃ w : va_W, w = MW a cI z (nI ns) zh (nI nl) tx th pa rd nu pt wy za := ⟨_, rfl⟩
  have hD : va_D (kA w0) (MW a cI z (nI ns) zh (nI nl) tx th pa rd nu pt wy za) := by rw [hw0]; exact hD
  have hS : va_S (kA w0) s.heap s.heap [] := va_S.rf
  rw [show kA (MW a cI z (nI ns) zh (nI nl) tx th pa rd nu pt wy za) = kA w0 from by rw [hw0], show kq D (MW a cI z (nI ns) zh (nI nl) tx th pa rd nu pt wy za) = kq D w0 from by rw [hw0]]
  have hP : va_P D vwCl (MW a cI z (nI ns) zh (nI nl) tx th pa rd nu pt wy za) s.heap := hP
  have hR10 := wf_R10 hw
  have hC4 := wf_C4 hw
  refine lv_aload_n hx hb dX5_take_0 rfl (lv_at hl 0 rfl) ?_
  refine lv_aload_n hx hb dX5_take_1 rfl (lv_at hl 0 rfl) ?_
  refine lv_iload_n hx hb dX5_take_2 rfl (lv_at hl 1 rfl) ?_
  refine lv_iload_n hx hb dX5_take_3 rfl (lv_at hl 2 rfl) ?_
  refine kr_V (As := [.int ro, .int se]) (rest := [.ref (a 0)]) (C := RX5) (own := RX5) ⟨hx, hb, hml, hown, hts⟩ (c_X5_isSeat l D cI cC cH cL a z zh tx pa wy (nI ns) (nI nl) th rd nu pt za ro se (by first | assumption | omega)) (cwV 2 hts gX5_take_X5_isSeat rfl rfl rfl k_X5_isSeat ⟨Nat.le_of_ble_eq_true rfl, Nat.le_of_ble_eq_true rfl⟩) hP hK (va_recv (q := (RX5, TX5, 12)) hK hP (ci := 5) (q0 := 0) rfl rfl) rfl hl.1 rfl (Nat.le_of_ble_eq_true rfl) dX5_take_4 ⟨Nat.le_of_ble_eq_true rfl, Nat.le_of_ble_eq_true rfl⟩ ?_
  refine kx_if_neb (tgt := 14) hx hb dX5_take_7 (by decide) (fun c_7_0 => ?_) (fun c_7_1 => ?_)
  · obtain ⟨r0, s0, hr0, hs0, rfl, rfl⟩ := isSeat_out hw c_7_0
    have hS0 := wf_S12 hw hr0
    have hc_r0 : cl (nI r0) = r0 := cl_nI (show r0 < 2 ^ 31 by omega)
    have hc_s0 : cl (nI s0) = s0 := cl_nI (show s0 < 2 ^ 31 by omega)
    refine lv_aload_n hx hb dX5_take_14 rfl (lv_at hl 0 rfl) ?_
    refine lv_iload_n hx hb dX5_take_15 rfl (lv_at hl 1 rfl) ?_
    refine lv_iload_n hx hb dX5_take_16 rfl (lv_at hl 2 rfl) ?_
    refine kr_V (As := [.int (nI r0), .int (nI s0)]) (rest := [.ref (a 0)]) (C := RX5) (own := RX5) ⟨hx, hb, hml, hown, hts⟩ (c_X5_isTaken l D cI cC cH cL a z zh tx pa wy (nI ns) (nI nl) th rd nu pt za r0 s0 (by first | assumption | omega)) (cwV 2 hts gX5_take_X5_isTaken rfl rfl rfl k_X5_isTaken ⟨Nat.le_of_ble_eq_true rfl, Nat.le_of_ble_eq_true rfl⟩) hP hK (va_recv (q := (RX5, TX5, 12)) hK hP (ci := 5) (q0 := 0) rfl rfl) rfl hl.1 rfl (Nat.le_of_ble_eq_true rfl) dX5_take_17 ⟨Nat.le_of_ble_eq_true rfl, Nat.le_of_ble_eq_true rfl⟩ ?_
    refine kx_if_eqb (tgt := 27) hx hb dX5_take_20 (by decide) (fun c_20_2 => ?_) (fun c_20_3 => ?_)
    · refine lv_iconst (v := nI 0) hx hb dX5_take_27 (by decide) ?_
      refine va_put (D := D) (ci := 5) (v := .int (nI 0)) (ty := .int) (C := RX5) (T := TX5) (N := 12) hx hb hts iX5_take_5 tyX5 tyX5_ok nmX5 hown hK hP hD hS 0 rfl rfl 5 (by decide) (hts (.fieldLink RX5 25 "HallSightsModel" "thrown" "I") (List.mem_of_getElem? (i := 1) rfl)) (fun _ h9 => h9) rfl (by decide +kernel) rfl rfl (Nat.le_of_ble_eq_true rfl) dX5_take_28 (fun H locs hP hD hS => ?_)
      have hP : va_P D vwCl (MW a cI z (nI ns) zh (nI nl) tx (nI 0) pa rd nu pt wy za) H := hP
      have hD : va_D (kA w0) (MW a cI z (nI ns) zh (nI nl) tx (nI 0) pa rd nu pt wy za) := hD
      refine lv_aload_n hx hb dX5_take_31 rfl (lv_at hl 0 rfl) ?_
      refine va_get (D := D) (ci := 5) (v := .int (nI 0)) (C := RX5) (T := TX5) (N := 12) hx hb hts iX5_take_5 hown hK hP 0 rfl rfl 5 (by decide) (hts (.fieldLink RX5 25 "HallSightsModel" "thrown" "I") (List.mem_of_getElem? (i := 1) rfl)) (fun _ h9 => h9) rfl dX5_take_32 ?_
      refine kx_if_le (tgt := 40) hx hb (by omega) dX5_take_35 (by decide) (fun c_35_4 => ?_) (fun c => absurd c (by omega))
      refine lv_aload_n hx hb dX5_take_40 rfl (lv_at hl 0 rfl) ?_
      refine kw_V (As := []) (rest := []) (C := RX5) (own := RX5) ⟨hx, hb, hml, hown, hts⟩ (c_X5_save l D cI cC cH cL a z zh tx pa wy ns nl (nI 0) rd nu pt za  (by first | assumption | omega)) (cwV 0 hts gX5_take_X5_save rfl rfl rfl k_X5_save ⟨Nat.le_of_ble_eq_true rfl, Nat.le_of_ble_eq_true rfl⟩) hP hD hK hS [0, 1, 2, 3, 4, 5] [] rfl rfl (wr := []) rfl (by decide) (by decide) (by decide) (va_recv (q := (RX5, TX5, 12)) hK hP (ci := 5) (q0 := 0) rfl rfl) rfl hl.1 rfl (Nat.le_of_ble_eq_true rfl) dX5_take_41 ⟨Nat.le_of_ble_eq_true rfl, Nat.le_of_ble_eq_true rfl⟩ (fun H locs hP hD hS => ?_)
      have hP : va_P D vwCl (MW a cI z (nI (saveN ns)) (saveH z zh ns) (nI nl) tx (nI 0) pa rd nu pt wy za) H := hP
      have hD : va_D (kA w0) (MW a cI z (nI (saveN ns)) (saveH z zh ns) (nI nl) tx (nI 0) pa rd nu pt wy za) := hD
      refine lv_aload_n hx hb dX5_take_44 rfl (lv_at hl 0 rfl) ?_
      refine lv_iload_n hx hb dX5_take_45 rfl (lv_at hl 1 rfl) ?_
      refine lv_iconst (v := nI 3) hx hb dX5_take_46 (by decide) ?_
      refine lv_aload_n hx hb dX5_take_47 rfl (lv_at hl 0 rfl) ?_
      refine lv_iload_n hx hb dX5_take_48 rfl (lv_at hl 1 rfl) ?_
      refine lv_iconst (v := nI 3) hx hb dX5_take_49 (by decide) ?_
      refine kr_V (As := [.int (nI r0), .int (nI 3)]) (rest := [.int (nI 3), .int (nI r0), .ref (a 0)]) (C := RX5) (own := RX5) ⟨hx, hb, hml, hown, hts⟩ (c_X5_of l D cI cC cH cL a z (saveH z zh ns) tx pa wy (nI (saveN ns)) (nI nl) (nI 0) rd nu pt za r0 3 (by first | assumption | omega)) (cwV 2 hts gX5_take_X5_of rfl rfl rfl k_X5_of ⟨Nat.le_of_ble_eq_true rfl, Nat.le_of_ble_eq_true rfl⟩) hP hK (va_recv (q := (RX5, TX5, 12)) hK hP (ci := 5) (q0 := 0) rfl rfl) rfl hl.1 rfl (Nat.le_of_ble_eq_true rfl) dX5_take_50 ⟨Nat.le_of_ble_eq_true rfl, Nat.le_of_ble_eq_true rfl⟩ ?_
      refine lv_iconst (v := nI 1) hx hb dX5_take_53 (by decide) ?_
      refine lv_iload_n hx hb dX5_take_54 rfl (lv_at hl 2 rfl) ?_
      refine lv_ishl hx hb dX5_take_55 ?_
      refine lv_ior hx hb dX5_take_56 ?_
      refine kw_V (As := [.int (nI r0), .int (nI 3), .int ((z (5 + 4 * r0 + 3)) ||| ((nI 1) <<< ((nI s0) &&& 31)))]) (rest := []) (C := RX5) (own := RX5) ⟨hx, hb, hml, hown, hts⟩ (c_X5_put l D cI cC cH cL a z (saveH z zh ns) tx pa wy (nI (saveN ns)) (nI nl) (nI 0) rd nu pt za r0 3 ((z (5 + 4 * r0 + 3)) ||| ((nI 1) <<< ((nI s0) &&& 31))) (by first | assumption | omega)) (cwV 3 hts gX5_take_X5_put rfl rfl rfl k_X5_put ⟨Nat.le_of_ble_eq_true rfl, Nat.le_of_ble_eq_true rfl⟩) hP hD hK hS [0, 1, 2, 3, 4, 5] [] rfl rfl (wr := []) rfl (by decide) (by decide) (by decide) (va_recv (q := (RX5, TX5, 12)) hK hP (ci := 5) (q0 := 0) rfl rfl) rfl hl.1 rfl (Nat.le_of_ble_eq_true rfl) dX5_take_57 ⟨Nat.le_of_ble_eq_true rfl, Nat.le_of_ble_eq_true rfl⟩ (fun H locs hP hD hS => ?_)
      have hP : va_P D vwCl (MW a cI (upd z (5 + 4 * r0 + 3) ((z (5 + 4 * r0 + 3)) ||| ((nI 1) <<< ((nI s0) &&& 31)))) (nI (saveN ns)) (saveH z zh ns) (nI nl) tx (nI 0) pa rd nu pt wy za) H := hP
      have hD : va_D (kA w0) (MW a cI (upd z (5 + 4 * r0 + 3) ((z (5 + 4 * r0 + 3)) ||| ((nI 1) <<< ((nI s0) &&& 31)))) (nI (saveN ns)) (saveH z zh ns) (nI nl) tx (nI 0) pa rd nu pt wy za) := hD
      refine lv_aload_n hx hb dX5_take_60 rfl (lv_at hl 0 rfl) ?_
      refine lv_iload_n hx hb dX5_take_61 rfl (lv_at hl 1 rfl) ?_
      refine lv_iload_n hx hb dX5_take_62 rfl (lv_at hl 2 rfl) ?_
      refine kr_V (As := [.int (nI r0), .int (nI s0)]) (rest := []) (C := RX5) (own := RX5) ⟨hx, hb, hml, hown, hts⟩ (c_X5_peopleInWay l D cI cC cH cL a (upd z (5 + 4 * r0 + 3) ((z (5 + 4 * r0 + 3)) ||| ((nI 1) <<< ((nI s0) &&& 31)))) (saveH z zh ns) tx pa wy (nI (saveN ns)) (nI nl) (nI 0) rd nu pt za r0 s0 (by exact wf_upd hw (by omega) (by omega) (fun q _ => by omega)) (by rw [nR_upd (by omega)]; exact hr0)) (cwV 2 hts gX5_take_X5_peopleInWay rfl rfl rfl k_X5_peopleInWay ⟨Nat.le_of_ble_eq_true rfl, Nat.le_of_ble_eq_true rfl⟩) hP hK (va_recv (q := (RX5, TX5, 12)) hK hP (ci := 5) (q0 := 0) rfl rfl) rfl hl.1 rfl (Nat.le_of_ble_eq_true rfl) dX5_take_63 ⟨Nat.le_of_ble_eq_true rfl, Nat.le_of_ble_eq_true rfl⟩ ?_
      have e_5 : (nI (people (upd z (5 + 4 * r0 + 3) ((z (5 + 4 * r0 + 3)) ||| ((nI 1) <<< ((nI s0) &&& 31)))) r0 s0) : Int32) = (if tTake z (nI r0) (nI s0) = 0 then nI (people (takeZ z (cl (nI r0)) (cl (nI s0))) (cl (nI r0)) (cl (nI s0))) else nI 0) := by first | rfl | omega | (simp [tTake, takeZ, Int32.not_lt, Int32.not_le, c_7_0, hc_r0, hc_s0, c_20_2]; done) | (simp [tTake, takeZ, Int32.not_lt, Int32.not_le, c_7_0, hc_r0, hc_s0, c_20_2]; omega) | (revert c_7_0 hc_r0 hc_s0 c_20_2; simp +contextual [tTake, takeZ, Int32.not_lt, Int32.not_le]; done) | (revert c_7_0 hc_r0 hc_s0 c_20_2; simp +contextual [tTake, takeZ, Int32.not_lt, Int32.not_le]; omega)
      have ec_z_6 : ((upd z (5 + 4 * r0 + 3) ((z (5 + 4 * r0 + 3)) ||| ((nI 1) <<< ((nI s0) &&& 31)))) : ZZ) = (if tTake z (nI r0) (nI s0) = 0 then takeZ z (cl (nI r0)) (cl (nI s0)) else z) := by first | rfl | omega | (simp [tTake, takeZ, Int32.not_lt, Int32.not_le, c_7_0, hc_r0, hc_s0, c_20_2]; done) | (simp [tTake, takeZ, Int32.not_lt, Int32.not_le, c_7_0, hc_r0, hc_s0, c_20_2]; omega) | (revert c_7_0 hc_r0 hc_s0 c_20_2; simp +contextual [tTake, takeZ, Int32.not_lt, Int32.not_le]; done) | (revert c_7_0 hc_r0 hc_s0 c_20_2; simp +contextual [tTake, takeZ, Int32.not_lt, Int32.not_le]; omega)
      have ec_st_7 : ((nI (saveN ns)) : Int32) = (nI (if tTake z (nI r0) (nI s0) = 0 then saveN ns else ns)) := by first | rfl | omega | (simp [tTake, takeZ, Int32.not_lt, Int32.not_le, c_7_0, hc_r0, hc_s0, c_20_2]; done) | (simp [tTake, takeZ, Int32.not_lt, Int32.not_le, c_7_0, hc_r0, hc_s0, c_20_2]; omega) | (revert c_7_0 hc_r0 hc_s0 c_20_2; simp +contextual [tTake, takeZ, Int32.not_lt, Int32.not_le]; done) | (revert c_7_0 hc_r0 hc_s0 c_20_2; simp +contextual [tTake, takeZ, Int32.not_lt, Int32.not_le]; omega)
      have ec_zh_8 : ((saveH z zh ns) : ZZ) = (if tTake z (nI r0) (nI s0) = 0 then saveH z zh ns else zh) := by first | rfl | omega | (simp [tTake, takeZ, Int32.not_lt, Int32.not_le, c_7_0, hc_r0, hc_s0, c_20_2]; done) | (simp [tTake, takeZ, Int32.not_lt, Int32.not_le, c_7_0, hc_r0, hc_s0, c_20_2]; omega) | (revert c_7_0 hc_r0 hc_s0 c_20_2; simp +contextual [tTake, takeZ, Int32.not_lt, Int32.not_le]; done) | (revert c_7_0 hc_r0 hc_s0 c_20_2; simp +contextual [tTake, takeZ, Int32.not_lt, Int32.not_le]; omega)
      have ec_th_9 : ((nI 0) : Int32) = (nI (tTake z (nI r0) (nI s0))) := by first | rfl | omega | (simp [tTake, takeZ, Int32.not_lt, Int32.not_le, c_7_0, hc_r0, hc_s0, c_20_2]; done) | (simp [tTake, takeZ, Int32.not_lt, Int32.not_le, c_7_0, hc_r0, hc_s0, c_20_2]; omega) | (revert c_7_0 hc_r0 hc_s0 c_20_2; simp +contextual [tTake, takeZ, Int32.not_lt, Int32.not_le]; done) | (revert c_7_0 hc_r0 hc_s0 c_20_2; simp +contextual [tTake, takeZ, Int32.not_lt, Int32.not_le]; omega)
      have ew_10 : (MW a cI (upd z (5 + 4 * r0 + 3) ((z (5 + 4 * r0 + 3)) ||| ((nI 1) <<< ((nI s0) &&& 31)))) (nI (saveN ns)) (saveH z zh ns) (nI nl) tx (nI 0) pa rd nu pt wy za : va_W) = (MW a cI (if tTake z (nI r0) (nI s0) = 0 then takeZ z (cl (nI r0)) (cl (nI s0)) else z) (nI (if tTake z (nI r0) (nI s0) = 0 then saveN ns else ns)) (if tTake z (nI r0) (nI s0) = 0 then saveH z zh ns else zh) (nI nl) tx (nI (tTake z (nI r0) (nI s0))) pa rd nu pt wy za) := mw_c ec_z_6 ec_st_7 ec_zh_8 rfl rfl ec_th_9 rfl rfl rfl rfl rfl rfl
      rw [ew_10] at hP hD
      subst hw0
      exact kq_iret hx hb hrt hlocks e_5 hP hD hS dX5_take_66
    · refine lv_iconst (v := nI 2) hx hb dX5_take_23 (by decide) ?_
      refine lv_goto (tgt := 28) hx hb dX5_take_24 (by decide) ?_
      refine va_put (D := D) (ci := 5) (v := .int (nI 2)) (ty := .int) (C := RX5) (T := TX5) (N := 12) hx hb hts iX5_take_5 tyX5 tyX5_ok nmX5 hown hK hP hD hS 0 rfl rfl 5 (by decide) (hts (.fieldLink RX5 25 "HallSightsModel" "thrown" "I") (List.mem_of_getElem? (i := 1) rfl)) (fun _ h9 => h9) rfl (by decide +kernel) rfl rfl (Nat.le_of_ble_eq_true rfl) dX5_take_28 (fun H locs hP hD hS => ?_)
      have hP : va_P D vwCl (MW a cI z (nI ns) zh (nI nl) tx (nI 2) pa rd nu pt wy za) H := hP
      have hD : va_D (kA w0) (MW a cI z (nI ns) zh (nI nl) tx (nI 2) pa rd nu pt wy za) := hD
      refine lv_aload_n hx hb dX5_take_31 rfl (lv_at hl 0 rfl) ?_
      refine va_get (D := D) (ci := 5) (v := .int (nI 2)) (C := RX5) (T := TX5) (N := 12) hx hb hts iX5_take_5 hown hK hP 0 rfl rfl 5 (by decide) (hts (.fieldLink RX5 25 "HallSightsModel" "thrown" "I") (List.mem_of_getElem? (i := 1) rfl)) (fun _ h9 => h9) rfl dX5_take_32 ?_
      refine kx_if_le (tgt := 40) hx hb (by omega) dX5_take_35 (by decide) (fun c => absurd c (by omega)) (fun c_35_11 => ?_)
      refine lv_iconst (v := nI 0) hx hb dX5_take_38 (by decide) ?_
      have e_12 : (nI 0 : Int32) = (if tTake z (nI r0) (nI s0) = 0 then nI (people (takeZ z (cl (nI r0)) (cl (nI s0))) (cl (nI r0)) (cl (nI s0))) else nI 0) := by first | rfl | omega | (simp [tTake, takeZ, Int32.not_lt, Int32.not_le, c_7_0, hc_r0, hc_s0, c_20_3]; done) | (simp [tTake, takeZ, Int32.not_lt, Int32.not_le, c_7_0, hc_r0, hc_s0, c_20_3]; omega) | (revert c_7_0 hc_r0 hc_s0 c_20_3; simp +contextual [tTake, takeZ, Int32.not_lt, Int32.not_le]; done) | (revert c_7_0 hc_r0 hc_s0 c_20_3; simp +contextual [tTake, takeZ, Int32.not_lt, Int32.not_le]; omega)
      have ec_z_13 : (z : ZZ) = (if tTake z (nI r0) (nI s0) = 0 then takeZ z (cl (nI r0)) (cl (nI s0)) else z) := by first | rfl | omega | (simp [tTake, takeZ, Int32.not_lt, Int32.not_le, c_7_0, hc_r0, hc_s0, c_20_3]; done) | (simp [tTake, takeZ, Int32.not_lt, Int32.not_le, c_7_0, hc_r0, hc_s0, c_20_3]; omega) | (revert c_7_0 hc_r0 hc_s0 c_20_3; simp +contextual [tTake, takeZ, Int32.not_lt, Int32.not_le]; done) | (revert c_7_0 hc_r0 hc_s0 c_20_3; simp +contextual [tTake, takeZ, Int32.not_lt, Int32.not_le]; omega)
      have ec_st_14 : ((nI ns) : Int32) = (nI (if tTake z (nI r0) (nI s0) = 0 then saveN ns else ns)) := by first | rfl | omega | (simp [tTake, takeZ, Int32.not_lt, Int32.not_le, c_7_0, hc_r0, hc_s0, c_20_3]; done) | (simp [tTake, takeZ, Int32.not_lt, Int32.not_le, c_7_0, hc_r0, hc_s0, c_20_3]; omega) | (revert c_7_0 hc_r0 hc_s0 c_20_3; simp +contextual [tTake, takeZ, Int32.not_lt, Int32.not_le]; done) | (revert c_7_0 hc_r0 hc_s0 c_20_3; simp +contextual [tTake, takeZ, Int32.not_lt, Int32.not_le]; omega)
      have ec_zh_15 : (zh : ZZ) = (if tTake z (nI r0) (nI s0) = 0 then saveH z zh ns else zh) := by first | rfl | omega | (simp [tTake, takeZ, Int32.not_lt, Int32.not_le, c_7_0, hc_r0, hc_s0, c_20_3]; done) | (simp [tTake, takeZ, Int32.not_lt, Int32.not_le, c_7_0, hc_r0, hc_s0, c_20_3]; omega) | (revert c_7_0 hc_r0 hc_s0 c_20_3; simp +contextual [tTake, takeZ, Int32.not_lt, Int32.not_le]; done) | (revert c_7_0 hc_r0 hc_s0 c_20_3; simp +contextual [tTake, takeZ, Int32.not_lt, Int32.not_le]; omega)
      have ec_th_16 : ((nI 2) : Int32) = (nI (tTake z (nI r0) (nI s0))) := by first | rfl | omega | (simp [tTake, takeZ, Int32.not_lt, Int32.not_le, c_7_0, hc_r0, hc_s0, c_20_3]; done) | (simp [tTake, takeZ, Int32.not_lt, Int32.not_le, c_7_0, hc_r0, hc_s0, c_20_3]; omega) | (revert c_7_0 hc_r0 hc_s0 c_20_3; simp +contextual [tTake, takeZ, Int32.not_lt, Int32.not_le]; done) | (revert c_7_0 hc_r0 hc_s0 c_20_3; simp +contextual [tTake, takeZ, Int32.not_lt, Int32.not_le]; omega)
      have ew_17 : (MW a cI z (nI ns) zh (nI nl) tx (nI 2) pa rd nu pt wy za : va_W) = (MW a cI (if tTake z (nI r0) (nI s0) = 0 then takeZ z (cl (nI r0)) (cl (nI s0)) else z) (nI (if tTake z (nI r0) (nI s0) = 0 then saveN ns else ns)) (if tTake z (nI r0) (nI s0) = 0 then saveH z zh ns else zh) (nI nl) tx (nI (tTake z (nI r0) (nI s0))) pa rd nu pt wy za) := mw_c ec_z_13 ec_st_14 ec_zh_15 rfl rfl ec_th_16 rfl rfl rfl rfl rfl rfl
      rw [ew_17] at hP hD
      subst hw0
      exact kq_iret hx hb hrt hlocks e_12 hP hD hS dX5_take_39
  · refine lv_iconst (v := nI 1) hx hb dX5_take_10 (by decide) ?_
    refine lv_goto (tgt := 28) hx hb dX5_take_11 (by decide) ?_
    refine va_put (D := D) (ci := 5) (v := .int (nI 1)) (ty := .int) (C := RX5) (T := TX5) (N := 12) hx hb hts iX5_take_5 tyX5 tyX5_ok nmX5 hown hK hP hD hS 0 rfl rfl 5 (by decide) (hts (.fieldLink RX5 25 "HallSightsModel" "thrown" "I") (List.mem_of_getElem? (i := 1) rfl)) (fun _ h9 => h9) rfl (by decide +kernel) rfl rfl (Nat.le_of_ble_eq_true rfl) dX5_take_28 (fun H locs hP hD hS => ?_)
    have hP : va_P D vwCl (MW a cI z (nI ns) zh (nI nl) tx (nI 1) pa rd nu pt wy za) H := hP
    have hD : va_D (kA w0) (MW a cI z (nI ns) zh (nI nl) tx (nI 1) pa rd nu pt wy za) := hD
    refine lv_aload_n hx hb dX5_take_31 rfl (lv_at hl 0 rfl) ?_
    refine va_get (D := D) (ci := 5) (v := .int (nI 1)) (C := RX5) (T := TX5) (N := 12) hx hb hts iX5_take_5 hown hK hP 0 rfl rfl 5 (by decide) (hts (.fieldLink RX5 25 "HallSightsModel" "thrown" "I") (List.mem_of_getElem? (i := 1) rfl)) (fun _ h9 => h9) rfl dX5_take_32 ?_
    refine kx_if_le (tgt := 40) hx hb (by omega) dX5_take_35 (by decide) (fun c => absurd c (by omega)) (fun c_35_18 => ?_)
    refine lv_iconst (v := nI 0) hx hb dX5_take_38 (by decide) ?_
    have e_19 : (nI 0 : Int32) = (if tTake z ro se = 0 then nI (people (takeZ z (cl ro) (cl se)) (cl ro) (cl se)) else nI 0) := by first | rfl | omega | (simp [tTake, takeZ, Int32.not_lt, Int32.not_le, c_7_1]; done) | (simp [tTake, takeZ, Int32.not_lt, Int32.not_le, c_7_1]; omega) | (revert c_7_1; simp +contextual [tTake, takeZ, Int32.not_lt, Int32.not_le]; done) | (revert c_7_1; simp +contextual [tTake, takeZ, Int32.not_lt, Int32.not_le]; omega)
    have ec_z_20 : (z : ZZ) = (if tTake z ro se = 0 then takeZ z (cl ro) (cl se) else z) := by first | rfl | omega | (simp [tTake, takeZ, Int32.not_lt, Int32.not_le, c_7_1]; done) | (simp [tTake, takeZ, Int32.not_lt, Int32.not_le, c_7_1]; omega) | (revert c_7_1; simp +contextual [tTake, takeZ, Int32.not_lt, Int32.not_le]; done) | (revert c_7_1; simp +contextual [tTake, takeZ, Int32.not_lt, Int32.not_le]; omega)
    have ec_st_21 : ((nI ns) : Int32) = (nI (if tTake z ro se = 0 then saveN ns else ns)) := by first | rfl | omega | (simp [tTake, takeZ, Int32.not_lt, Int32.not_le, c_7_1]; done) | (simp [tTake, takeZ, Int32.not_lt, Int32.not_le, c_7_1]; omega) | (revert c_7_1; simp +contextual [tTake, takeZ, Int32.not_lt, Int32.not_le]; done) | (revert c_7_1; simp +contextual [tTake, takeZ, Int32.not_lt, Int32.not_le]; omega)
    have ec_zh_22 : (zh : ZZ) = (if tTake z ro se = 0 then saveH z zh ns else zh) := by first | rfl | omega | (simp [tTake, takeZ, Int32.not_lt, Int32.not_le, c_7_1]; done) | (simp [tTake, takeZ, Int32.not_lt, Int32.not_le, c_7_1]; omega) | (revert c_7_1; simp +contextual [tTake, takeZ, Int32.not_lt, Int32.not_le]; done) | (revert c_7_1; simp +contextual [tTake, takeZ, Int32.not_lt, Int32.not_le]; omega)
    have ec_th_23 : ((nI 1) : Int32) = (nI (tTake z ro se)) := by first | rfl | omega | (simp [tTake, takeZ, Int32.not_lt, Int32.not_le, c_7_1]; done) | (simp [tTake, takeZ, Int32.not_lt, Int32.not_le, c_7_1]; omega) | (revert c_7_1; simp +contextual [tTake, takeZ, Int32.not_lt, Int32.not_le]; done) | (revert c_7_1; simp +contextual [tTake, takeZ, Int32.not_lt, Int32.not_le]; omega)
    have ew_24 : (MW a cI z (nI ns) zh (nI nl) tx (nI 1) pa rd nu pt wy za : va_W) = (MW a cI (if tTake z ro se = 0 then takeZ z (cl ro) (cl se) else z) (nI (if tTake z ro se = 0 then saveN ns else ns)) (if tTake z ro se = 0 then saveH z zh ns else zh) (nI nl) tx (nI (tTake z ro se)) pa rd nu pt wy za) := mw_c ec_z_20 ec_st_21 ec_zh_22 rfl rfl ec_th_23 rfl rfl rfl rfl rfl rfl
    rw [ew_24] at hP hD
    subst hw0
    exact kq_iret hx hb hrt hlocks e_19 hP hD hS dX5_take_39
set_option maxRecDepth 20000 in
theorem iX5_leave_5 : ∀ w ∈ wsX50, w ∈ wsX5_leave := by decide +kernel
set_option maxHeartbeats 4000000 in
set_option maxRecDepth 100000 in
theorem c_X5_leave (l : Launch) (D : va_G) (cI cC cH cL : ClassId) (a : Nat → Nat) (z zh tx pa wy : ZZ) (ns nl : Nat) (th rd nu pt : Int32) (za : Int64) (ro : Int32) (se : Int32) (hw : WF z) (hn : ns ≤ 6) : Met l yX5_leave wsX5_leave ({ frames := 4, cells := 0, slots := 0, locals := 89 }) (kw [.ref (a 0), .int ro, .int se] D (MW a cI z (nI ns) zh (nI nl) tx th pa rd nu pt wy za) (kT cI cC cH cL)) (kq D (MW a cI z (nI ns) zh (nI nl) tx th pa rd nu pt wy za) (MW a cI (if tLeave z ro se = 0 then leaveZ z (cl ro) (cl se) else z) (nI (if tLeave z ro se = 0 then saveN ns else ns)) (if tLeave z ro se = 0 then saveH z zh ns else zh) (nI nl) tx (nI (tLeave z ro se)) pa rd nu pt wy za) (.returned (some (.int (if tLeave z ro se = 0 then nI (takenAll (leaveZ z (cl ro) (cl se))) else nI 0))))) 0 0 (kA (MW a cI z (nI ns) zh (nI nl) tx th pa rd nu pt wy za)) := by
  refine Met.ofW (cc := cX5_leave) (maxL := 3) (ret := (some .int)) (by decide) rfl ?_
  intro p e s m args below meth c s₁ B hml hv
  obtain ⟨rfl, hP, hK, hD0⟩ := hv
  have hx := B.exec
  have hb := B.bytes
  have hrt := B.returns
  have hts := atoms_spec (ws := wsX5_leave) B.pre
  have hown : s.vm.findClass RX5 = some m.cls := findClass_of_methodNamed B.named
  have hlocks := B.notSynchronized
  have hl := lv_entry ([.ref (a 0), .int ro, .int se]) (n := 3) (Nat.le_of_ble_eq_true rfl)
  rw [lg_entry_eq]
  generalize (lg_sl ([.ref (a 0), .int ro, .int se]) ++ List.replicate (3 - (lg_sl ([.ref (a 0), .int ro, .int se])).length) Slot.unset).toArray = ls at hl ⊢
  have hl : lv_has ls 3 [(0, .ref (a 0)), (1, .int ro), (2, .int se)] := hl
  have hD := kA_self hD0
  obtain ⟨w0, hw0⟩ : ∃ w : va_W, w = MW a cI z (nI ns) zh (nI nl) tx th pa rd nu pt wy za := ⟨_, rfl⟩
  have hD : va_D (kA w0) (MW a cI z (nI ns) zh (nI nl) tx th pa rd nu pt wy za) := by rw [hw0]; exact hD
  have hS : va_S (kA w0) s.heap s.heap [] := va_S.rf
  rw [show kA (MW a cI z (nI ns) zh (nI nl) tx th pa rd nu pt wy za) = kA w0 from by rw [hw0], show kq D (MW a cI z (nI ns) zh (nI nl) tx th pa rd nu pt wy za) = kq D w0 from by rw [hw0]]
  have hP : va_P D vwCl (MW a cI z (nI ns) zh (nI nl) tx th pa rd nu pt wy za) s.heap := hP
  have hR10 := wf_R10 hw
  have hC4 := wf_C4 hw
  refine lv_aload_n hx hb dX5_leave_0 rfl (lv_at hl 0 rfl) ?_
  refine lv_aload_n hx hb dX5_leave_1 rfl (lv_at hl 0 rfl) ?_
  refine lv_iload_n hx hb dX5_leave_2 rfl (lv_at hl 1 rfl) ?_
  refine lv_iload_n hx hb dX5_leave_3 rfl (lv_at hl 2 rfl) ?_
  refine kr_V (As := [.int ro, .int se]) (rest := [.ref (a 0)]) (C := RX5) (own := RX5) ⟨hx, hb, hml, hown, hts⟩ (c_X5_isSeat l D cI cC cH cL a z zh tx pa wy (nI ns) (nI nl) th rd nu pt za ro se (by first | assumption | omega)) (cwV 2 hts gX5_leave_X5_isSeat rfl rfl rfl k_X5_isSeat ⟨Nat.le_of_ble_eq_true rfl, Nat.le_of_ble_eq_true rfl⟩) hP hK (va_recv (q := (RX5, TX5, 12)) hK hP (ci := 5) (q0 := 0) rfl rfl) rfl hl.1 rfl (Nat.le_of_ble_eq_true rfl) dX5_leave_4 ⟨Nat.le_of_ble_eq_true rfl, Nat.le_of_ble_eq_true rfl⟩ ?_
  refine kx_if_neb (tgt := 14) hx hb dX5_leave_7 (by decide) (fun c_7_0 => ?_) (fun c_7_1 => ?_)
  · obtain ⟨r0, s0, hr0, hs0, rfl, rfl⟩ := isSeat_out hw c_7_0
    have hS0 := wf_S12 hw hr0
    have hc_r0 : cl (nI r0) = r0 := cl_nI (show r0 < 2 ^ 31 by omega)
    have hc_s0 : cl (nI s0) = s0 := cl_nI (show s0 < 2 ^ 31 by omega)
    refine lv_aload_n hx hb dX5_leave_14 rfl (lv_at hl 0 rfl) ?_
    refine lv_iload_n hx hb dX5_leave_15 rfl (lv_at hl 1 rfl) ?_
    refine lv_iload_n hx hb dX5_leave_16 rfl (lv_at hl 2 rfl) ?_
    refine kr_V (As := [.int (nI r0), .int (nI s0)]) (rest := [.ref (a 0)]) (C := RX5) (own := RX5) ⟨hx, hb, hml, hown, hts⟩ (c_X5_isTaken l D cI cC cH cL a z zh tx pa wy (nI ns) (nI nl) th rd nu pt za r0 s0 (by first | assumption | omega)) (cwV 2 hts gX5_leave_X5_isTaken rfl rfl rfl k_X5_isTaken ⟨Nat.le_of_ble_eq_true rfl, Nat.le_of_ble_eq_true rfl⟩) hP hK (va_recv (q := (RX5, TX5, 12)) hK hP (ci := 5) (q0 := 0) rfl rfl) rfl hl.1 rfl (Nat.le_of_ble_eq_true rfl) dX5_leave_17 ⟨Nat.le_of_ble_eq_true rfl, Nat.le_of_ble_eq_true rfl⟩ ?_
    refine kx_if_eqb (tgt := 27) hx hb dX5_leave_20 (by decide) (fun c_20_2 => ?_) (fun c_20_3 => ?_)
    · refine lv_iconst (v := nI 2) hx hb dX5_leave_27 (by decide) ?_
      refine va_put (D := D) (ci := 5) (v := .int (nI 2)) (ty := .int) (C := RX5) (T := TX5) (N := 12) hx hb hts iX5_leave_5 tyX5 tyX5_ok nmX5 hown hK hP hD hS 0 rfl rfl 5 (by decide) (hts (.fieldLink RX5 25 "HallSightsModel" "thrown" "I") (List.mem_of_getElem? (i := 1) rfl)) (fun _ h9 => h9) rfl (by decide +kernel) rfl rfl (Nat.le_of_ble_eq_true rfl) dX5_leave_28 (fun H locs hP hD hS => ?_)
      have hP : va_P D vwCl (MW a cI z (nI ns) zh (nI nl) tx (nI 2) pa rd nu pt wy za) H := hP
      have hD : va_D (kA w0) (MW a cI z (nI ns) zh (nI nl) tx (nI 2) pa rd nu pt wy za) := hD
      refine lv_aload_n hx hb dX5_leave_31 rfl (lv_at hl 0 rfl) ?_
      refine va_get (D := D) (ci := 5) (v := .int (nI 2)) (C := RX5) (T := TX5) (N := 12) hx hb hts iX5_leave_5 hown hK hP 0 rfl rfl 5 (by decide) (hts (.fieldLink RX5 25 "HallSightsModel" "thrown" "I") (List.mem_of_getElem? (i := 1) rfl)) (fun _ h9 => h9) rfl dX5_leave_32 ?_
      refine kx_if_le (tgt := 40) hx hb (by omega) dX5_leave_35 (by decide) (fun c => absurd c (by omega)) (fun c_35_4 => ?_)
      refine lv_iconst (v := nI 0) hx hb dX5_leave_38 (by decide) ?_
      have e_5 : (nI 0 : Int32) = (if tLeave z (nI r0) (nI s0) = 0 then nI (takenAll (leaveZ z (cl (nI r0)) (cl (nI s0)))) else nI 0) := by first | rfl | omega | (simp [tLeave, leaveZ, Int32.not_lt, Int32.not_le, c_7_0, hc_r0, hc_s0, c_20_2]; done) | (simp [tLeave, leaveZ, Int32.not_lt, Int32.not_le, c_7_0, hc_r0, hc_s0, c_20_2]; omega) | (revert c_7_0 hc_r0 hc_s0 c_20_2; simp +contextual [tLeave, leaveZ, Int32.not_lt, Int32.not_le]; done) | (revert c_7_0 hc_r0 hc_s0 c_20_2; simp +contextual [tLeave, leaveZ, Int32.not_lt, Int32.not_le]; omega)
      have ec_z_6 : (z : ZZ) = (if tLeave z (nI r0) (nI s0) = 0 then leaveZ z (cl (nI r0)) (cl (nI s0)) else z) := by first | rfl | omega | (simp [tLeave, leaveZ, Int32.not_lt, Int32.not_le, c_7_0, hc_r0, hc_s0, c_20_2]; done) | (simp [tLeave, leaveZ, Int32.not_lt, Int32.not_le, c_7_0, hc_r0, hc_s0, c_20_2]; omega) | (revert c_7_0 hc_r0 hc_s0 c_20_2; simp +contextual [tLeave, leaveZ, Int32.not_lt, Int32.not_le]; done) | (revert c_7_0 hc_r0 hc_s0 c_20_2; simp +contextual [tLeave, leaveZ, Int32.not_lt, Int32.not_le]; omega)
      have ec_st_7 : ((nI ns) : Int32) = (nI (if tLeave z (nI r0) (nI s0) = 0 then saveN ns else ns)) := by first | rfl | omega | (simp [tLeave, leaveZ, Int32.not_lt, Int32.not_le, c_7_0, hc_r0, hc_s0, c_20_2]; done) | (simp [tLeave, leaveZ, Int32.not_lt, Int32.not_le, c_7_0, hc_r0, hc_s0, c_20_2]; omega) | (revert c_7_0 hc_r0 hc_s0 c_20_2; simp +contextual [tLeave, leaveZ, Int32.not_lt, Int32.not_le]; done) | (revert c_7_0 hc_r0 hc_s0 c_20_2; simp +contextual [tLeave, leaveZ, Int32.not_lt, Int32.not_le]; omega)
      have ec_zh_8 : (zh : ZZ) = (if tLeave z (nI r0) (nI s0) = 0 then saveH z zh ns else zh) := by first | rfl | omega | (simp [tLeave, leaveZ, Int32.not_lt, Int32.not_le, c_7_0, hc_r0, hc_s0, c_20_2]; done) | (simp [tLeave, leaveZ, Int32.not_lt, Int32.not_le, c_7_0, hc_r0, hc_s0, c_20_2]; omega) | (revert c_7_0 hc_r0 hc_s0 c_20_2; simp +contextual [tLeave, leaveZ, Int32.not_lt, Int32.not_le]; done) | (revert c_7_0 hc_r0 hc_s0 c_20_2; simp +contextual [tLeave, leaveZ, Int32.not_lt, Int32.not_le]; omega)
      have ec_th_9 : ((nI 2) : Int32) = (nI (tLeave z (nI r0) (nI s0))) := by first | rfl | omega | (simp [tLeave, leaveZ, Int32.not_lt, Int32.not_le, c_7_0, hc_r0, hc_s0, c_20_2]; done) | (simp [tLeave, leaveZ, Int32.not_lt, Int32.not_le, c_7_0, hc_r0, hc_s0, c_20_2]; omega) | (revert c_7_0 hc_r0 hc_s0 c_20_2; simp +contextual [tLeave, leaveZ, Int32.not_lt, Int32.not_le]; done) | (revert c_7_0 hc_r0 hc_s0 c_20_2; simp +contextual [tLeave, leaveZ, Int32.not_lt, Int32.not_le]; omega)
      have ew_10 : (MW a cI z (nI ns) zh (nI nl) tx (nI 2) pa rd nu pt wy za : va_W) = (MW a cI (if tLeave z (nI r0) (nI s0) = 0 then leaveZ z (cl (nI r0)) (cl (nI s0)) else z) (nI (if tLeave z (nI r0) (nI s0) = 0 then saveN ns else ns)) (if tLeave z (nI r0) (nI s0) = 0 then saveH z zh ns else zh) (nI nl) tx (nI (tLeave z (nI r0) (nI s0))) pa rd nu pt wy za) := mw_c ec_z_6 ec_st_7 ec_zh_8 rfl rfl ec_th_9 rfl rfl rfl rfl rfl rfl
      rw [ew_10] at hP hD
      subst hw0
      exact kq_iret hx hb hrt hlocks e_5 hP hD hS dX5_leave_39
    · refine lv_iconst (v := nI 0) hx hb dX5_leave_23 (by decide) ?_
      refine lv_goto (tgt := 28) hx hb dX5_leave_24 (by decide) ?_
      refine va_put (D := D) (ci := 5) (v := .int (nI 0)) (ty := .int) (C := RX5) (T := TX5) (N := 12) hx hb hts iX5_leave_5 tyX5 tyX5_ok nmX5 hown hK hP hD hS 0 rfl rfl 5 (by decide) (hts (.fieldLink RX5 25 "HallSightsModel" "thrown" "I") (List.mem_of_getElem? (i := 1) rfl)) (fun _ h9 => h9) rfl (by decide +kernel) rfl rfl (Nat.le_of_ble_eq_true rfl) dX5_leave_28 (fun H locs hP hD hS => ?_)
      have hP : va_P D vwCl (MW a cI z (nI ns) zh (nI nl) tx (nI 0) pa rd nu pt wy za) H := hP
      have hD : va_D (kA w0) (MW a cI z (nI ns) zh (nI nl) tx (nI 0) pa rd nu pt wy za) := hD
      refine lv_aload_n hx hb dX5_leave_31 rfl (lv_at hl 0 rfl) ?_
      refine va_get (D := D) (ci := 5) (v := .int (nI 0)) (C := RX5) (T := TX5) (N := 12) hx hb hts iX5_leave_5 hown hK hP 0 rfl rfl 5 (by decide) (hts (.fieldLink RX5 25 "HallSightsModel" "thrown" "I") (List.mem_of_getElem? (i := 1) rfl)) (fun _ h9 => h9) rfl dX5_leave_32 ?_
      refine kx_if_le (tgt := 40) hx hb (by omega) dX5_leave_35 (by decide) (fun c_35_11 => ?_) (fun c => absurd c (by omega))
      refine lv_aload_n hx hb dX5_leave_40 rfl (lv_at hl 0 rfl) ?_
      refine kw_V (As := []) (rest := []) (C := RX5) (own := RX5) ⟨hx, hb, hml, hown, hts⟩ (c_X5_save l D cI cC cH cL a z zh tx pa wy ns nl (nI 0) rd nu pt za  (by first | assumption | omega)) (cwV 0 hts gX5_leave_X5_save rfl rfl rfl k_X5_save ⟨Nat.le_of_ble_eq_true rfl, Nat.le_of_ble_eq_true rfl⟩) hP hD hK hS [0, 1, 2, 3, 4, 5] [] rfl rfl (wr := []) rfl (by decide) (by decide) (by decide) (va_recv (q := (RX5, TX5, 12)) hK hP (ci := 5) (q0 := 0) rfl rfl) rfl hl.1 rfl (Nat.le_of_ble_eq_true rfl) dX5_leave_41 ⟨Nat.le_of_ble_eq_true rfl, Nat.le_of_ble_eq_true rfl⟩ (fun H locs hP hD hS => ?_)
      have hP : va_P D vwCl (MW a cI z (nI (saveN ns)) (saveH z zh ns) (nI nl) tx (nI 0) pa rd nu pt wy za) H := hP
      have hD : va_D (kA w0) (MW a cI z (nI (saveN ns)) (saveH z zh ns) (nI nl) tx (nI 0) pa rd nu pt wy za) := hD
      refine lv_aload_n hx hb dX5_leave_44 rfl (lv_at hl 0 rfl) ?_
      refine lv_iload_n hx hb dX5_leave_45 rfl (lv_at hl 1 rfl) ?_
      refine lv_iconst (v := nI 3) hx hb dX5_leave_46 (by decide) ?_
      refine lv_aload_n hx hb dX5_leave_47 rfl (lv_at hl 0 rfl) ?_
      refine lv_iload_n hx hb dX5_leave_48 rfl (lv_at hl 1 rfl) ?_
      refine lv_iconst (v := nI 3) hx hb dX5_leave_49 (by decide) ?_
      refine kr_V (As := [.int (nI r0), .int (nI 3)]) (rest := [.int (nI 3), .int (nI r0), .ref (a 0)]) (C := RX5) (own := RX5) ⟨hx, hb, hml, hown, hts⟩ (c_X5_of l D cI cC cH cL a z (saveH z zh ns) tx pa wy (nI (saveN ns)) (nI nl) (nI 0) rd nu pt za r0 3 (by first | assumption | omega)) (cwV 2 hts gX5_leave_X5_of rfl rfl rfl k_X5_of ⟨Nat.le_of_ble_eq_true rfl, Nat.le_of_ble_eq_true rfl⟩) hP hK (va_recv (q := (RX5, TX5, 12)) hK hP (ci := 5) (q0 := 0) rfl rfl) rfl hl.1 rfl (Nat.le_of_ble_eq_true rfl) dX5_leave_50 ⟨Nat.le_of_ble_eq_true rfl, Nat.le_of_ble_eq_true rfl⟩ ?_
      refine lv_iconst (v := nI 1) hx hb dX5_leave_53 (by decide) ?_
      refine lv_iload_n hx hb dX5_leave_54 rfl (lv_at hl 2 rfl) ?_
      refine lv_ishl hx hb dX5_leave_55 ?_
      refine lv_iconst (v := (-1)) hx hb dX5_leave_56 (by decide) ?_
      refine lv_ixor hx hb dX5_leave_57 ?_
      refine lv_iand hx hb dX5_leave_58 ?_
      refine kw_V (As := [.int (nI r0), .int (nI 3), .int ((z (5 + 4 * r0 + 3)) &&& (((nI 1) <<< ((nI s0) &&& 31)) ^^^ (-1)))]) (rest := []) (C := RX5) (own := RX5) ⟨hx, hb, hml, hown, hts⟩ (c_X5_put l D cI cC cH cL a z (saveH z zh ns) tx pa wy (nI (saveN ns)) (nI nl) (nI 0) rd nu pt za r0 3 ((z (5 + 4 * r0 + 3)) &&& (((nI 1) <<< ((nI s0) &&& 31)) ^^^ (-1))) (by first | assumption | omega)) (cwV 3 hts gX5_leave_X5_put rfl rfl rfl k_X5_put ⟨Nat.le_of_ble_eq_true rfl, Nat.le_of_ble_eq_true rfl⟩) hP hD hK hS [0, 1, 2, 3, 4, 5] [] rfl rfl (wr := []) rfl (by decide) (by decide) (by decide) (va_recv (q := (RX5, TX5, 12)) hK hP (ci := 5) (q0 := 0) rfl rfl) rfl hl.1 rfl (Nat.le_of_ble_eq_true rfl) dX5_leave_59 ⟨Nat.le_of_ble_eq_true rfl, Nat.le_of_ble_eq_true rfl⟩ (fun H locs hP hD hS => ?_)
      have hP : va_P D vwCl (MW a cI (upd z (5 + 4 * r0 + 3) ((z (5 + 4 * r0 + 3)) &&& (((nI 1) <<< ((nI s0) &&& 31)) ^^^ (-1)))) (nI (saveN ns)) (saveH z zh ns) (nI nl) tx (nI 0) pa rd nu pt wy za) H := hP
      have hD : va_D (kA w0) (MW a cI (upd z (5 + 4 * r0 + 3) ((z (5 + 4 * r0 + 3)) &&& (((nI 1) <<< ((nI s0) &&& 31)) ^^^ (-1)))) (nI (saveN ns)) (saveH z zh ns) (nI nl) tx (nI 0) pa rd nu pt wy za) := hD
      refine lv_aload_n hx hb dX5_leave_62 rfl (lv_at hl 0 rfl) ?_
      refine kr_V (As := []) (rest := []) (C := RX5) (own := RX5) ⟨hx, hb, hml, hown, hts⟩ (c_X5_allTaken l D cI cC cH cL a (upd z (5 + 4 * r0 + 3) ((z (5 + 4 * r0 + 3)) &&& (((nI 1) <<< ((nI s0) &&& 31)) ^^^ (-1)))) (saveH z zh ns) tx pa wy (nI (saveN ns)) (nI nl) (nI 0) rd nu pt za  (by exact wf_upd hw (by omega) (by omega) (fun q _ => by omega))) (cwV 0 hts gX5_leave_X5_allTaken rfl rfl rfl k_X5_allTaken ⟨Nat.le_of_ble_eq_true rfl, Nat.le_of_ble_eq_true rfl⟩) hP hK (va_recv (q := (RX5, TX5, 12)) hK hP (ci := 5) (q0 := 0) rfl rfl) rfl hl.1 rfl (Nat.le_of_ble_eq_true rfl) dX5_leave_63 ⟨Nat.le_of_ble_eq_true rfl, Nat.le_of_ble_eq_true rfl⟩ ?_
      have e_12 : (nI (takenAll (upd z (5 + 4 * r0 + 3) ((z (5 + 4 * r0 + 3)) &&& (((nI 1) <<< ((nI s0) &&& 31)) ^^^ (-1))))) : Int32) = (if tLeave z (nI r0) (nI s0) = 0 then nI (takenAll (leaveZ z (cl (nI r0)) (cl (nI s0)))) else nI 0) := by first | rfl | omega | (simp [tLeave, leaveZ, Int32.not_lt, Int32.not_le, c_7_0, hc_r0, hc_s0, c_20_3]; done) | (simp [tLeave, leaveZ, Int32.not_lt, Int32.not_le, c_7_0, hc_r0, hc_s0, c_20_3]; omega) | (revert c_7_0 hc_r0 hc_s0 c_20_3; simp +contextual [tLeave, leaveZ, Int32.not_lt, Int32.not_le]; done) | (revert c_7_0 hc_r0 hc_s0 c_20_3; simp +contextual [tLeave, leaveZ, Int32.not_lt, Int32.not_le]; omega)
      have ec_z_13 : ((upd z (5 + 4 * r0 + 3) ((z (5 + 4 * r0 + 3)) &&& (((nI 1) <<< ((nI s0) &&& 31)) ^^^ (-1)))) : ZZ) = (if tLeave z (nI r0) (nI s0) = 0 then leaveZ z (cl (nI r0)) (cl (nI s0)) else z) := by first | rfl | omega | (simp [tLeave, leaveZ, Int32.not_lt, Int32.not_le, c_7_0, hc_r0, hc_s0, c_20_3]; done) | (simp [tLeave, leaveZ, Int32.not_lt, Int32.not_le, c_7_0, hc_r0, hc_s0, c_20_3]; omega) | (revert c_7_0 hc_r0 hc_s0 c_20_3; simp +contextual [tLeave, leaveZ, Int32.not_lt, Int32.not_le]; done) | (revert c_7_0 hc_r0 hc_s0 c_20_3; simp +contextual [tLeave, leaveZ, Int32.not_lt, Int32.not_le]; omega)
      have ec_st_14 : ((nI (saveN ns)) : Int32) = (nI (if tLeave z (nI r0) (nI s0) = 0 then saveN ns else ns)) := by first | rfl | omega | (simp [tLeave, leaveZ, Int32.not_lt, Int32.not_le, c_7_0, hc_r0, hc_s0, c_20_3]; done) | (simp [tLeave, leaveZ, Int32.not_lt, Int32.not_le, c_7_0, hc_r0, hc_s0, c_20_3]; omega) | (revert c_7_0 hc_r0 hc_s0 c_20_3; simp +contextual [tLeave, leaveZ, Int32.not_lt, Int32.not_le]; done) | (revert c_7_0 hc_r0 hc_s0 c_20_3; simp +contextual [tLeave, leaveZ, Int32.not_lt, Int32.not_le]; omega)
      have ec_zh_15 : ((saveH z zh ns) : ZZ) = (if tLeave z (nI r0) (nI s0) = 0 then saveH z zh ns else zh) := by first | rfl | omega | (simp [tLeave, leaveZ, Int32.not_lt, Int32.not_le, c_7_0, hc_r0, hc_s0, c_20_3]; done) | (simp [tLeave, leaveZ, Int32.not_lt, Int32.not_le, c_7_0, hc_r0, hc_s0, c_20_3]; omega) | (revert c_7_0 hc_r0 hc_s0 c_20_3; simp +contextual [tLeave, leaveZ, Int32.not_lt, Int32.not_le]; done) | (revert c_7_0 hc_r0 hc_s0 c_20_3; simp +contextual [tLeave, leaveZ, Int32.not_lt, Int32.not_le]; omega)
      have ec_th_16 : ((nI 0) : Int32) = (nI (tLeave z (nI r0) (nI s0))) := by first | rfl | omega | (simp [tLeave, leaveZ, Int32.not_lt, Int32.not_le, c_7_0, hc_r0, hc_s0, c_20_3]; done) | (simp [tLeave, leaveZ, Int32.not_lt, Int32.not_le, c_7_0, hc_r0, hc_s0, c_20_3]; omega) | (revert c_7_0 hc_r0 hc_s0 c_20_3; simp +contextual [tLeave, leaveZ, Int32.not_lt, Int32.not_le]; done) | (revert c_7_0 hc_r0 hc_s0 c_20_3; simp +contextual [tLeave, leaveZ, Int32.not_lt, Int32.not_le]; omega)
      have ew_17 : (MW a cI (upd z (5 + 4 * r0 + 3) ((z (5 + 4 * r0 + 3)) &&& (((nI 1) <<< ((nI s0) &&& 31)) ^^^ (-1)))) (nI (saveN ns)) (saveH z zh ns) (nI nl) tx (nI 0) pa rd nu pt wy za : va_W) = (MW a cI (if tLeave z (nI r0) (nI s0) = 0 then leaveZ z (cl (nI r0)) (cl (nI s0)) else z) (nI (if tLeave z (nI r0) (nI s0) = 0 then saveN ns else ns)) (if tLeave z (nI r0) (nI s0) = 0 then saveH z zh ns else zh) (nI nl) tx (nI (tLeave z (nI r0) (nI s0))) pa rd nu pt wy za) := mw_c ec_z_13 ec_st_14 ec_zh_15 rfl rfl ec_th_16 rfl rfl rfl rfl rfl rfl
      rw [ew_17] at hP hD
      subst hw0
      exact kq_iret hx hb hrt hlocks e_12 hP hD hS dX5_leave_66
  · refine lv_iconst (v := nI 1) hx hb dX5_leave_10 (by decide) ?_
    refine lv_goto (tgt := 28) hx hb dX5_leave_11 (by decide) ?_
    refine va_put (D := D) (ci := 5) (v := .int (nI 1)) (ty := .int) (C := RX5) (T := TX5) (N := 12) hx hb hts iX5_leave_5 tyX5 tyX5_ok nmX5 hown hK hP hD hS 0 rfl rfl 5 (by decide) (hts (.fieldLink RX5 25 "HallSightsModel" "thrown" "I") (List.mem_of_getElem? (i := 1) rfl)) (fun _ h9 => h9) rfl (by decide +kernel) rfl rfl (Nat.le_of_ble_eq_true rfl) dX5_leave_28 (fun H locs hP hD hS => ?_)
    have hP : va_P D vwCl (MW a cI z (nI ns) zh (nI nl) tx (nI 1) pa rd nu pt wy za) H := hP
    have hD : va_D (kA w0) (MW a cI z (nI ns) zh (nI nl) tx (nI 1) pa rd nu pt wy za) := hD
    refine lv_aload_n hx hb dX5_leave_31 rfl (lv_at hl 0 rfl) ?_
    refine va_get (D := D) (ci := 5) (v := .int (nI 1)) (C := RX5) (T := TX5) (N := 12) hx hb hts iX5_leave_5 hown hK hP 0 rfl rfl 5 (by decide) (hts (.fieldLink RX5 25 "HallSightsModel" "thrown" "I") (List.mem_of_getElem? (i := 1) rfl)) (fun _ h9 => h9) rfl dX5_leave_32 ?_
    refine kx_if_le (tgt := 40) hx hb (by omega) dX5_leave_35 (by decide) (fun c => absurd c (by omega)) (fun c_35_18 => ?_)
    refine lv_iconst (v := nI 0) hx hb dX5_leave_38 (by decide) ?_
    have e_19 : (nI 0 : Int32) = (if tLeave z ro se = 0 then nI (takenAll (leaveZ z (cl ro) (cl se))) else nI 0) := by first | rfl | omega | (simp [tLeave, leaveZ, Int32.not_lt, Int32.not_le, c_7_1]; done) | (simp [tLeave, leaveZ, Int32.not_lt, Int32.not_le, c_7_1]; omega) | (revert c_7_1; simp +contextual [tLeave, leaveZ, Int32.not_lt, Int32.not_le]; done) | (revert c_7_1; simp +contextual [tLeave, leaveZ, Int32.not_lt, Int32.not_le]; omega)
    have ec_z_20 : (z : ZZ) = (if tLeave z ro se = 0 then leaveZ z (cl ro) (cl se) else z) := by first | rfl | omega | (simp [tLeave, leaveZ, Int32.not_lt, Int32.not_le, c_7_1]; done) | (simp [tLeave, leaveZ, Int32.not_lt, Int32.not_le, c_7_1]; omega) | (revert c_7_1; simp +contextual [tLeave, leaveZ, Int32.not_lt, Int32.not_le]; done) | (revert c_7_1; simp +contextual [tLeave, leaveZ, Int32.not_lt, Int32.not_le]; omega)
    have ec_st_21 : ((nI ns) : Int32) = (nI (if tLeave z ro se = 0 then saveN ns else ns)) := by first | rfl | omega | (simp [tLeave, leaveZ, Int32.not_lt, Int32.not_le, c_7_1]; done) | (simp [tLeave, leaveZ, Int32.not_lt, Int32.not_le, c_7_1]; omega) | (revert c_7_1; simp +contextual [tLeave, leaveZ, Int32.not_lt, Int32.not_le]; done) | (revert c_7_1; simp +contextual [tLeave, leaveZ, Int32.not_lt, Int32.not_le]; omega)
    have ec_zh_22 : (zh : ZZ) = (if tLeave z ro se = 0 then saveH z zh ns else zh) := by first | rfl | omega | (simp [tLeave, leaveZ, Int32.not_lt, Int32.not_le, c_7_1]; done) | (simp [tLeave, leaveZ, Int32.not_lt, Int32.not_le, c_7_1]; omega) | (revert c_7_1; simp +contextual [tLeave, leaveZ, Int32.not_lt, Int32.not_le]; done) | (revert c_7_1; simp +contextual [tLeave, leaveZ, Int32.not_lt, Int32.not_le]; omega)
    have ec_th_23 : ((nI 1) : Int32) = (nI (tLeave z ro se)) := by first | rfl | omega | (simp [tLeave, leaveZ, Int32.not_lt, Int32.not_le, c_7_1]; done) | (simp [tLeave, leaveZ, Int32.not_lt, Int32.not_le, c_7_1]; omega) | (revert c_7_1; simp +contextual [tLeave, leaveZ, Int32.not_lt, Int32.not_le]; done) | (revert c_7_1; simp +contextual [tLeave, leaveZ, Int32.not_lt, Int32.not_le]; omega)
    have ew_24 : (MW a cI z (nI ns) zh (nI nl) tx (nI 1) pa rd nu pt wy za : va_W) = (MW a cI (if tLeave z ro se = 0 then leaveZ z (cl ro) (cl se) else z) (nI (if tLeave z ro se = 0 then saveN ns else ns)) (if tLeave z ro se = 0 then saveH z zh ns else zh) (nI nl) tx (nI (tLeave z ro se)) pa rd nu pt wy za) := mw_c ec_z_20 ec_st_21 ec_zh_22 rfl rfl ec_th_23 rfl rfl rfl rfl rfl rfl
    rw [ew_24] at hP hD
    subst hw0
    exact kq_iret hx hb hrt hlocks e_19 hP hD hS dX5_leave_39
set_option maxRecDepth 20000 in
theorem iX5_seatParty_5 : ∀ w ∈ wsX50, w ∈ wsX5_seatParty := by decide +kernel
set_option maxHeartbeats 4000000 in
set_option maxRecDepth 100000 in
theorem c_X5_seatParty (l : Launch) (D : va_G) (cI cC cH cL : ClassId) (a : Nat → Nat) (z zh tx pa wy : ZZ) (ns nl : Nat) (th rd nu pt : Int32) (za : Int64) (mm : Int32) (hw : WF z) (hn : ns ≤ 6) : Met l yX5_seatParty wsX5_seatParty ({ frames := 7, cells := 0, slots := 0, locals := 170 }) (kw [.ref (a 0), .int mm] D (MW a cI z (nI ns) zh (nI nl) tx th pa rd nu pt wy za) (kT cI cC cH cL)) (kq D (MW a cI z (nI ns) zh (nI nl) tx th pa rd nu pt wy za) (MW a cI (if tParty z mm = 0 then partyZ z (cl (placeForI z (cl mm)) / 100) (cl (placeForI z (cl mm)) % 100) (cl mm) else z) (nI (if tParty z mm = 0 then saveN ns else ns)) (if tParty z mm = 0 then saveH z zh ns else zh) (nI nl) tx (nI (tParty z mm)) pa rd nu pt wy za) (.returned (some (.int (if tParty z mm = 0 then placeForI z (cl mm) else nI 0))))) 0 0 (kA (MW a cI z (nI ns) zh (nI nl) tx th pa rd nu pt wy za)) := by
  refine Met.ofW (cc := cX5_seatParty) (maxL := 4) (ret := (some .int)) (by decide) rfl ?_
  intro p e s m args below meth c s₁ B hml hv
  obtain ⟨rfl, hP, hK, hD0⟩ := hv
  have hx := B.exec
  have hb := B.bytes
  have hrt := B.returns
  have hts := atoms_spec (ws := wsX5_seatParty) B.pre
  have hown : s.vm.findClass RX5 = some m.cls := findClass_of_methodNamed B.named
  have hlocks := B.notSynchronized
  have hl := lv_entry ([.ref (a 0), .int mm]) (n := 4) (Nat.le_of_ble_eq_true rfl)
  rw [lg_entry_eq]
  generalize (lg_sl ([.ref (a 0), .int mm]) ++ List.replicate (4 - (lg_sl ([.ref (a 0), .int mm])).length) Slot.unset).toArray = ls at hl ⊢
  have hl : lv_has ls 4 [(0, .ref (a 0)), (1, .int mm)] := hl
  have hD := kA_self hD0
  obtain ⟨w0, hw0⟩ : ∃ w : va_W, w = MW a cI z (nI ns) zh (nI nl) tx th pa rd nu pt wy za := ⟨_, rfl⟩
  have hD : va_D (kA w0) (MW a cI z (nI ns) zh (nI nl) tx th pa rd nu pt wy za) := by rw [hw0]; exact hD
  have hS : va_S (kA w0) s.heap s.heap [] := va_S.rf
  rw [show kA (MW a cI z (nI ns) zh (nI nl) tx th pa rd nu pt wy za) = kA w0 from by rw [hw0], show kq D (MW a cI z (nI ns) zh (nI nl) tx th pa rd nu pt wy za) = kq D w0 from by rw [hw0]]
  have hP : va_P D vwCl (MW a cI z (nI ns) zh (nI nl) tx th pa rd nu pt wy za) s.heap := hP
  have hR10 := wf_R10 hw
  have hC4 := wf_C4 hw
  refine lv_aload_n hx hb dX5_seatParty_0 rfl (lv_at hl 0 rfl) ?_
  refine lv_iload_n hx hb dX5_seatParty_1 rfl (lv_at hl 1 rfl) ?_
  refine lv_iconst (v := nI 1) hx hb dX5_seatParty_2 (by decide) ?_
  refine lv_bipush (v := nI 12) hx hb dX5_seatParty_3 (by decide) ?_
  refine kr_S (As := [.int mm, .int (nI 1), .int (nI 12)]) (rest := [.ref (a 0)]) (own := RX5) ⟨hx, hb, hml, hown, hts⟩ (c_X5_within l D cI cC cH cL  mm (nI 1) (nI 12) ) (va_cwS 3 hts gX5_seatParty_X5_within rfl rfl rfl k_X5_withinS ⟨Nat.le_of_ble_eq_true rfl, Nat.le_of_ble_eq_true rfl⟩) (hP.sub (ws' := []) [] rfl) hK rfl hl.1 rfl (Nat.le_of_ble_eq_true rfl) dX5_seatParty_5 ⟨Nat.le_of_ble_eq_true rfl, Nat.le_of_ble_eq_true rfl⟩ ?_
  refine kx_if_eqb (tgt := 15) hx hb dX5_seatParty_8 (by decide) (fun c_8_0 => ?_) (fun c_8_1 => ?_)
  · refine lv_iconst (v := nI 1) hx hb dX5_seatParty_15 (by decide) ?_
    refine va_put (D := D) (ci := 5) (v := .int (nI 1)) (ty := .int) (C := RX5) (T := TX5) (N := 12) hx hb hts iX5_seatParty_5 tyX5 tyX5_ok nmX5 hown hK hP hD hS 0 rfl rfl 5 (by decide) (hts (.fieldLink RX5 25 "HallSightsModel" "thrown" "I") (List.mem_of_getElem? (i := 1) rfl)) (fun _ h9 => h9) rfl (by decide +kernel) rfl rfl (Nat.le_of_ble_eq_true rfl) dX5_seatParty_16 (fun H locs hP hD hS => ?_)
    have hP : va_P D vwCl (MW a cI z (nI ns) zh (nI nl) tx (nI 1) pa rd nu pt wy za) H := hP
    have hD : va_D (kA w0) (MW a cI z (nI ns) zh (nI nl) tx (nI 1) pa rd nu pt wy za) := hD
    refine lv_aload_n hx hb dX5_seatParty_19 rfl (lv_at hl 0 rfl) ?_
    refine va_get (D := D) (ci := 5) (v := .int (nI 1)) (C := RX5) (T := TX5) (N := 12) hx hb hts iX5_seatParty_5 hown hK hP 0 rfl rfl 5 (by decide) (hts (.fieldLink RX5 25 "HallSightsModel" "thrown" "I") (List.mem_of_getElem? (i := 1) rfl)) (fun _ h9 => h9) rfl dX5_seatParty_20 ?_
    refine kx_if_le (tgt := 30) hx hb (by omega) dX5_seatParty_23 (by decide) (fun c => absurd c (by omega)) (fun c_23_2 => ?_)
    refine lv_iconst (v := (-1)) hx hb dX5_seatParty_26 (by decide) ?_
    refine lv_goto (tgt := 35) hx hb dX5_seatParty_27 (by decide) ?_
    refine lv_istore_n (lv' := [(2, .int (-1)), (0, .ref (a 0)), (1, .int mm)]) hx hb dX5_seatParty_35 rfl hl (by decide) rfl (fun ls hl => ?_)
    refine lv_aload_n hx hb dX5_seatParty_36 rfl (lv_at hl 1 rfl) ?_
    refine lv_aload_n hx hb dX5_seatParty_37 rfl (lv_at hl 1 rfl) ?_
    refine va_get (D := D) (ci := 5) (v := .int (nI 1)) (C := RX5) (T := TX5) (N := 12) hx hb hts iX5_seatParty_5 hown hK hP 0 rfl rfl 5 (by decide) (hts (.fieldLink RX5 25 "HallSightsModel" "thrown" "I") (List.mem_of_getElem? (i := 1) rfl)) (fun _ h9 => h9) rfl dX5_seatParty_38 ?_
    refine kx_if_le (tgt := 51) hx hb (by omega) dX5_seatParty_41 (by decide) (fun c => absurd c (by omega)) (fun c_41_3 => ?_)
    refine lv_aload_n hx hb dX5_seatParty_44 rfl (lv_at hl 1 rfl) ?_
    refine va_get (D := D) (ci := 5) (v := .int (nI 1)) (C := RX5) (T := TX5) (N := 12) hx hb hts iX5_seatParty_5 hown hK hP 0 rfl rfl 5 (by decide) (hts (.fieldLink RX5 25 "HallSightsModel" "thrown" "I") (List.mem_of_getElem? (i := 1) rfl)) (fun _ h9 => h9) rfl dX5_seatParty_45 ?_
    refine lv_goto (tgt := 61) hx hb dX5_seatParty_48 (by decide) ?_
    refine va_put (D := D) (ci := 5) (v := .int (nI 1)) (ty := .int) (C := RX5) (T := TX5) (N := 12) hx hb hts iX5_seatParty_5 tyX5 tyX5_ok nmX5 hown hK hP hD hS 0 rfl rfl 5 (by decide) (hts (.fieldLink RX5 25 "HallSightsModel" "thrown" "I") (List.mem_of_getElem? (i := 1) rfl)) (fun _ h9 => h9) rfl (by decide +kernel) rfl rfl (Nat.le_of_ble_eq_true rfl) dX5_seatParty_61 (fun H locs hP hD hS => ?_)
    have hP : va_P D vwCl (MW a cI z (nI ns) zh (nI nl) tx (nI 1) pa rd nu pt wy za) H := hP
    have hD : va_D (kA w0) (MW a cI z (nI ns) zh (nI nl) tx (nI 1) pa rd nu pt wy za) := hD
    refine lv_aload_n hx hb dX5_seatParty_64 rfl (lv_at hl 1 rfl) ?_
    refine va_get (D := D) (ci := 5) (v := .int (nI 1)) (C := RX5) (T := TX5) (N := 12) hx hb hts iX5_seatParty_5 hown hK hP 0 rfl rfl 5 (by decide) (hts (.fieldLink RX5 25 "HallSightsModel" "thrown" "I") (List.mem_of_getElem? (i := 1) rfl)) (fun _ h9 => h9) rfl dX5_seatParty_65 ?_
    refine kx_if_le (tgt := 73) hx hb (by omega) dX5_seatParty_68 (by decide) (fun c => absurd c (by omega)) (fun c_68_4 => ?_)
    refine lv_iconst (v := nI 0) hx hb dX5_seatParty_71 (by decide) ?_
    have e_5 : (nI 0 : Int32) = (if tParty z mm = 0 then placeForI z (cl mm) else nI 0) := by first | rfl | omega | (simp [tParty, Int32.not_lt, Int32.not_le, c_8_0]; done) | (simp [tParty, Int32.not_lt, Int32.not_le, c_8_0]; omega) | (revert c_8_0; simp +contextual [tParty, Int32.not_lt, Int32.not_le]; done) | (revert c_8_0; simp +contextual [tParty, Int32.not_lt, Int32.not_le]; omega)
    have ec_z_6 : (z : ZZ) = (if tParty z mm = 0 then partyZ z (cl (placeForI z (cl mm)) / 100) (cl (placeForI z (cl mm)) % 100) (cl mm) else z) := by first | rfl | omega | (simp [tParty, Int32.not_lt, Int32.not_le, c_8_0]; done) | (simp [tParty, Int32.not_lt, Int32.not_le, c_8_0]; omega) | (revert c_8_0; simp +contextual [tParty, Int32.not_lt, Int32.not_le]; done) | (revert c_8_0; simp +contextual [tParty, Int32.not_lt, Int32.not_le]; omega)
    have ec_st_7 : ((nI ns) : Int32) = (nI (if tParty z mm = 0 then saveN ns else ns)) := by first | rfl | omega | (simp [tParty, Int32.not_lt, Int32.not_le, c_8_0]; done) | (simp [tParty, Int32.not_lt, Int32.not_le, c_8_0]; omega) | (revert c_8_0; simp +contextual [tParty, Int32.not_lt, Int32.not_le]; done) | (revert c_8_0; simp +contextual [tParty, Int32.not_lt, Int32.not_le]; omega)
    have ec_zh_8 : (zh : ZZ) = (if tParty z mm = 0 then saveH z zh ns else zh) := by first | rfl | omega | (simp [tParty, Int32.not_lt, Int32.not_le, c_8_0]; done) | (simp [tParty, Int32.not_lt, Int32.not_le, c_8_0]; omega) | (revert c_8_0; simp +contextual [tParty, Int32.not_lt, Int32.not_le]; done) | (revert c_8_0; simp +contextual [tParty, Int32.not_lt, Int32.not_le]; omega)
    have ec_th_9 : ((nI 1) : Int32) = (nI (tParty z mm)) := by first | rfl | omega | (simp [tParty, Int32.not_lt, Int32.not_le, c_8_0]; done) | (simp [tParty, Int32.not_lt, Int32.not_le, c_8_0]; omega) | (revert c_8_0; simp +contextual [tParty, Int32.not_lt, Int32.not_le]; done) | (revert c_8_0; simp +contextual [tParty, Int32.not_lt, Int32.not_le]; omega)
    have ew_10 : (MW a cI z (nI ns) zh (nI nl) tx (nI 1) pa rd nu pt wy za : va_W) = (MW a cI (if tParty z mm = 0 then partyZ z (cl (placeForI z (cl mm)) / 100) (cl (placeForI z (cl mm)) % 100) (cl mm) else z) (nI (if tParty z mm = 0 then saveN ns else ns)) (if tParty z mm = 0 then saveH z zh ns else zh) (nI nl) tx (nI (tParty z mm)) pa rd nu pt wy za) := mw_c ec_z_6 ec_st_7 ec_zh_8 rfl rfl ec_th_9 rfl rfl rfl rfl rfl rfl
    rw [ew_10] at hP hD
    subst hw0
    exact kq_iret hx hb hrt hlocks e_5 hP hD hS dX5_seatParty_72
  · obtain ⟨m0, hm0a, hm0, rfl⟩ := wthn13_out c_8_1
    have hc_m0 : cl (nI m0) = m0 := cl_nI (show m0 < 2 ^ 31 by omega)
    refine lv_iconst (v := nI 0) hx hb dX5_seatParty_11 (by decide) ?_
    refine lv_goto (tgt := 16) hx hb dX5_seatParty_12 (by decide) ?_
    refine va_put (D := D) (ci := 5) (v := .int (nI 0)) (ty := .int) (C := RX5) (T := TX5) (N := 12) hx hb hts iX5_seatParty_5 tyX5 tyX5_ok nmX5 hown hK hP hD hS 0 rfl rfl 5 (by decide) (hts (.fieldLink RX5 25 "HallSightsModel" "thrown" "I") (List.mem_of_getElem? (i := 1) rfl)) (fun _ h9 => h9) rfl (by decide +kernel) rfl rfl (Nat.le_of_ble_eq_true rfl) dX5_seatParty_16 (fun H locs hP hD hS => ?_)
    have hP : va_P D vwCl (MW a cI z (nI ns) zh (nI nl) tx (nI 0) pa rd nu pt wy za) H := hP
    have hD : va_D (kA w0) (MW a cI z (nI ns) zh (nI nl) tx (nI 0) pa rd nu pt wy za) := hD
    refine lv_aload_n hx hb dX5_seatParty_19 rfl (lv_at hl 0 rfl) ?_
    refine va_get (D := D) (ci := 5) (v := .int (nI 0)) (C := RX5) (T := TX5) (N := 12) hx hb hts iX5_seatParty_5 hown hK hP 0 rfl rfl 5 (by decide) (hts (.fieldLink RX5 25 "HallSightsModel" "thrown" "I") (List.mem_of_getElem? (i := 1) rfl)) (fun _ h9 => h9) rfl dX5_seatParty_20 ?_
    refine kx_if_le (tgt := 30) hx hb (by omega) dX5_seatParty_23 (by decide) (fun c_23_11 => ?_) (fun c => absurd c (by omega))
    refine lv_aload_n hx hb dX5_seatParty_30 rfl (lv_at hl 0 rfl) ?_
    refine lv_iload_n hx hb dX5_seatParty_31 rfl (lv_at hl 1 rfl) ?_
    refine kr_V (As := [.int (nI m0)]) (rest := []) (C := RX5) (own := RX5) ⟨hx, hb, hml, hown, hts⟩ (c_X5_placeFor l D cI cC cH cL a z zh tx pa wy (nI ns) (nI nl) (nI 0) rd nu pt za m0 (by first | assumption | omega) (by first | assumption | omega) (by first | assumption | omega)) (cwV 1 hts gX5_seatParty_X5_placeFor rfl rfl rfl k_X5_placeFor ⟨Nat.le_of_ble_eq_true rfl, Nat.le_of_ble_eq_true rfl⟩) hP hK (va_recv (q := (RX5, TX5, 12)) hK hP (ci := 5) (q0 := 0) rfl rfl) rfl hl.1 rfl (Nat.le_of_ble_eq_true rfl) dX5_seatParty_32 ⟨Nat.le_of_ble_eq_true rfl, Nat.le_of_ble_eq_true rfl⟩ ?_
    refine lv_istore_n (lv' := [(2, .int (placeForI z m0)), (0, .ref (a 0)), (1, .int (nI m0))]) hx hb dX5_seatParty_35 rfl hl (by decide) rfl (fun ls hl => ?_)
    refine lv_aload_n hx hb dX5_seatParty_36 rfl (lv_at hl 1 rfl) ?_
    refine lv_aload_n hx hb dX5_seatParty_37 rfl (lv_at hl 1 rfl) ?_
    refine va_get (D := D) (ci := 5) (v := .int (nI 0)) (C := RX5) (T := TX5) (N := 12) hx hb hts iX5_seatParty_5 hown hK hP 0 rfl rfl 5 (by decide) (hts (.fieldLink RX5 25 "HallSightsModel" "thrown" "I") (List.mem_of_getElem? (i := 1) rfl)) (fun _ h9 => h9) rfl dX5_seatParty_38 ?_
    refine kx_if_le (tgt := 51) hx hb (by omega) dX5_seatParty_41 (by decide) (fun c_41_12 => ?_) (fun c => absurd c (by omega))
    refine lv_iload_n hx hb dX5_seatParty_51 rfl (lv_at hl 0 rfl) ?_
    refine lv_iconst (v := (-1)) hx hb dX5_seatParty_52 (by decide) ?_
    refine lv_icmp_ne (tgt := 60) hx hb dX5_seatParty_53 (by decide) (fun c_53_13 => ?_) (fun c_53_14 => ?_)
    · have c_53_13 : ¬ ((placeForI z m0) : Int32) = (-1) := c_53_13
      refine lv_iconst (v := nI 0) hx hb dX5_seatParty_60 (by decide) ?_
      refine va_put (D := D) (ci := 5) (v := .int (nI 0)) (ty := .int) (C := RX5) (T := TX5) (N := 12) hx hb hts iX5_seatParty_5 tyX5 tyX5_ok nmX5 hown hK hP hD hS 0 rfl rfl 5 (by decide) (hts (.fieldLink RX5 25 "HallSightsModel" "thrown" "I") (List.mem_of_getElem? (i := 1) rfl)) (fun _ h9 => h9) rfl (by decide +kernel) rfl rfl (Nat.le_of_ble_eq_true rfl) dX5_seatParty_61 (fun H locs hP hD hS => ?_)
      have hP : va_P D vwCl (MW a cI z (nI ns) zh (nI nl) tx (nI 0) pa rd nu pt wy za) H := hP
      have hD : va_D (kA w0) (MW a cI z (nI ns) zh (nI nl) tx (nI 0) pa rd nu pt wy za) := hD
      refine lv_aload_n hx hb dX5_seatParty_64 rfl (lv_at hl 1 rfl) ?_
      refine va_get (D := D) (ci := 5) (v := .int (nI 0)) (C := RX5) (T := TX5) (N := 12) hx hb hts iX5_seatParty_5 hown hK hP 0 rfl rfl 5 (by decide) (hts (.fieldLink RX5 25 "HallSightsModel" "thrown" "I") (List.mem_of_getElem? (i := 1) rfl)) (fun _ h9 => h9) rfl dX5_seatParty_65 ?_
      refine kx_if_le (tgt := 73) hx hb (by omega) dX5_seatParty_68 (by decide) (fun c_68_15 => ?_) (fun c => absurd c (by omega))
      obtain ⟨pr, pf, hpr, hpf, hpl⟩ := placeFor_out hm0a c_53_13
      have hpS := wf_S12 hw hpr
      have hl : lv_has ls 4 [(2, .int (nI (100 * pr + pf))), (0, .ref (a 0)), (1, .int (nI m0))] := lv_eqv (l1 := [(2, .int (placeForI z m0)), (0, .ref (a 0)), (1, .int (nI m0))]) hl (lv_ce (congrArg Value.int hpl) (lv_ce rfl (lv_ce rfl rfl)))
      have hq1 : cl (nI (100 * pr + pf)) / 100 = pr := by rw [cl_nI (by omega)]; omega
      have hq2 : cl (nI (100 * pr + pf)) % 100 = pf := by rw [cl_nI (by omega)]; omega
      refine lv_aload_n hx hb dX5_seatParty_73 rfl (lv_at hl 1 rfl) ?_
      refine kw_V (As := []) (rest := []) (C := RX5) (own := RX5) ⟨hx, hb, hml, hown, hts⟩ (c_X5_save l D cI cC cH cL a z zh tx pa wy ns nl (nI 0) rd nu pt za  (by first | assumption | omega)) (cwV 0 hts gX5_seatParty_X5_save rfl rfl rfl k_X5_save ⟨Nat.le_of_ble_eq_true rfl, Nat.le_of_ble_eq_true rfl⟩) hP hD hK hS [0, 1, 2, 3, 4, 5] [] rfl rfl (wr := []) rfl (by decide) (by decide) (by decide) (va_recv (q := (RX5, TX5, 12)) hK hP (ci := 5) (q0 := 0) rfl rfl) rfl hl.1 rfl (Nat.le_of_ble_eq_true rfl) dX5_seatParty_74 ⟨Nat.le_of_ble_eq_true rfl, Nat.le_of_ble_eq_true rfl⟩ (fun H locs hP hD hS => ?_)
      have hP : va_P D vwCl (MW a cI z (nI (saveN ns)) (saveH z zh ns) (nI nl) tx (nI 0) pa rd nu pt wy za) H := hP
      have hD : va_D (kA w0) (MW a cI z (nI (saveN ns)) (saveH z zh ns) (nI nl) tx (nI 0) pa rd nu pt wy za) := hD
      refine lv_iconst (v := nI 0) hx hb dX5_seatParty_77 (by decide) ?_
      refine lv_istore_n (lv' := [(3, .int (nI 0)), (2, .int (nI (100 * pr + pf))), (0, .ref (a 0)), (1, .int (nI m0))]) hx hb dX5_seatParty_78 rfl hl (by decide) rfl (fun ls hl => ?_)
      have ec_z_16 : (z : ZZ) = (partyZ z pr pf 0) := by first | rfl | omega | (simp [tParty, Int32.not_lt, Int32.not_le, c_8_1, hc_m0, c_53_13, hpl, hq1, hq2, nI_ne_m1 (show 100 * pr + pf < 2 ^ 31 by omega)]; done) | (simp [tParty, Int32.not_lt, Int32.not_le, c_8_1, hc_m0, c_53_13, hpl, hq1, hq2, nI_ne_m1 (show 100 * pr + pf < 2 ^ 31 by omega)]; omega) | (revert c_8_1 hc_m0 c_53_13 hpl hq1 hq2; simp +contextual [tParty, Int32.not_lt, Int32.not_le]; done) | (revert c_8_1 hc_m0 c_53_13 hpl hq1 hq2; simp +contextual [tParty, Int32.not_lt, Int32.not_le]; omega)
      have ew_17 : (MW a cI z (nI (saveN ns)) (saveH z zh ns) (nI nl) tx (nI 0) pa rd nu pt wy za : va_W) = (MW a cI (partyZ z pr pf 0) (nI (saveN ns)) (saveH z zh ns) (nI nl) tx (nI 0) pa rd nu pt wy za) := mw_c ec_z_16 rfl rfl rfl rfl rfl rfl rfl rfl rfl rfl rfl
      rw [ew_17] at hP hD
      refine kx_upW (fun k H locs ls => (va_P D vwCl (MW a cI (partyZ z pr pf k) (nI (saveN ns)) (saveH z zh ns) (nI nl) tx (nI 0) pa rd nu pt wy za) H ∧ va_D (kA w0) (MW a cI (partyZ z pr pf k) (nI (saveN ns)) (saveH z zh ns) (nI nl) tx (nI 0) pa rd nu pt wy za) ∧ va_S (kA w0) s.heap H locs) ∧ lv_has ls 4 [(2, .int (nI (100 * pr + pf))), (0, .ref (a 0)), (1, .int (nI m0)), (3, .int (nI k))]) (0) (m0) (by omega) _ _ ls ⟨⟨hP, hD, hS⟩, (lv_sub hl [1, 2, 3, 0] rfl)⟩ ?_
      clear hP hD hS
      intro ik H locs ls hikl hikh hp ih79
      obtain ⟨⟨hP, hD, hS⟩, hp⟩ := hp
      have hl := hp
      refine lv_iload_n hx hb dX5_seatParty_79 rfl (lv_at hl 3 rfl) ?_
      refine lv_iload_n hx hb dX5_seatParty_80 rfl (lv_at hl 2 rfl) ?_
      refine kx_icmp_ge (tgt := 117) hx hb (by omega) (by omega) dX5_seatParty_81 (by decide) (fun c_81_18 => ?_) (fun c_81_19 => ?_)
      · have hq20 : m0 = ik := by omega
        subst hq20
        refine lv_iload_n hx hb dX5_seatParty_117 rfl (lv_at hl 0 rfl) ?_
        have e_21 : (nI (100 * pr + pf) : Int32) = (if tParty z (nI m0) = 0 then placeForI z (cl (nI m0)) else nI 0) := by first | rfl | omega | (simp [tParty, Int32.not_lt, Int32.not_le, c_8_1, hc_m0, c_53_13, hpl, hq1, hq2, nI_ne_m1 (show 100 * pr + pf < 2 ^ 31 by omega), c_81_18, Nat.not_lt.mpr c_81_18]; done) | (simp [tParty, Int32.not_lt, Int32.not_le, c_8_1, hc_m0, c_53_13, hpl, hq1, hq2, nI_ne_m1 (show 100 * pr + pf < 2 ^ 31 by omega), c_81_18, Nat.not_lt.mpr c_81_18]; omega) | (revert c_8_1 hc_m0 c_53_13 hpl hq1 hq2 c_81_18; simp +contextual [tParty, Int32.not_lt, Int32.not_le]; done) | (revert c_8_1 hc_m0 c_53_13 hpl hq1 hq2 c_81_18; simp +contextual [tParty, Int32.not_lt, Int32.not_le]; omega)
        have ec_z_22 : ((partyZ z pr pf m0) : ZZ) = (if tParty z (nI m0) = 0 then partyZ z (cl (placeForI z (cl (nI m0))) / 100) (cl (placeForI z (cl (nI m0))) % 100) (cl (nI m0)) else z) := by first | rfl | omega | (simp [tParty, Int32.not_lt, Int32.not_le, c_8_1, hc_m0, c_53_13, hpl, hq1, hq2, nI_ne_m1 (show 100 * pr + pf < 2 ^ 31 by omega), c_81_18, Nat.not_lt.mpr c_81_18]; done) | (simp [tParty, Int32.not_lt, Int32.not_le, c_8_1, hc_m0, c_53_13, hpl, hq1, hq2, nI_ne_m1 (show 100 * pr + pf < 2 ^ 31 by omega), c_81_18, Nat.not_lt.mpr c_81_18]; omega) | (revert c_8_1 hc_m0 c_53_13 hpl hq1 hq2 c_81_18; simp +contextual [tParty, Int32.not_lt, Int32.not_le]; done) | (revert c_8_1 hc_m0 c_53_13 hpl hq1 hq2 c_81_18; simp +contextual [tParty, Int32.not_lt, Int32.not_le]; omega)
        have ec_st_23 : ((nI (saveN ns)) : Int32) = (nI (if tParty z (nI m0) = 0 then saveN ns else ns)) := by first | rfl | omega | (simp [tParty, Int32.not_lt, Int32.not_le, c_8_1, hc_m0, c_53_13, hpl, hq1, hq2, nI_ne_m1 (show 100 * pr + pf < 2 ^ 31 by omega), c_81_18, Nat.not_lt.mpr c_81_18]; done) | (simp [tParty, Int32.not_lt, Int32.not_le, c_8_1, hc_m0, c_53_13, hpl, hq1, hq2, nI_ne_m1 (show 100 * pr + pf < 2 ^ 31 by omega), c_81_18, Nat.not_lt.mpr c_81_18]; omega) | (revert c_8_1 hc_m0 c_53_13 hpl hq1 hq2 c_81_18; simp +contextual [tParty, Int32.not_lt, Int32.not_le]; done) | (revert c_8_1 hc_m0 c_53_13 hpl hq1 hq2 c_81_18; simp +contextual [tParty, Int32.not_lt, Int32.not_le]; omega)
        have ec_zh_24 : ((saveH z zh ns) : ZZ) = (if tParty z (nI m0) = 0 then saveH z zh ns else zh) := by first | rfl | omega | (simp [tParty, Int32.not_lt, Int32.not_le, c_8_1, hc_m0, c_53_13, hpl, hq1, hq2, nI_ne_m1 (show 100 * pr + pf < 2 ^ 31 by omega), c_81_18, Nat.not_lt.mpr c_81_18]; done) | (simp [tParty, Int32.not_lt, Int32.not_le, c_8_1, hc_m0, c_53_13, hpl, hq1, hq2, nI_ne_m1 (show 100 * pr + pf < 2 ^ 31 by omega), c_81_18, Nat.not_lt.mpr c_81_18]; omega) | (revert c_8_1 hc_m0 c_53_13 hpl hq1 hq2 c_81_18; simp +contextual [tParty, Int32.not_lt, Int32.not_le]; done) | (revert c_8_1 hc_m0 c_53_13 hpl hq1 hq2 c_81_18; simp +contextual [tParty, Int32.not_lt, Int32.not_le]; omega)
        have ec_th_25 : ((nI 0) : Int32) = (nI (tParty z (nI m0))) := by first | rfl | omega | (simp [tParty, Int32.not_lt, Int32.not_le, c_8_1, hc_m0, c_53_13, hpl, hq1, hq2, nI_ne_m1 (show 100 * pr + pf < 2 ^ 31 by omega), c_81_18, Nat.not_lt.mpr c_81_18]; done) | (simp [tParty, Int32.not_lt, Int32.not_le, c_8_1, hc_m0, c_53_13, hpl, hq1, hq2, nI_ne_m1 (show 100 * pr + pf < 2 ^ 31 by omega), c_81_18, Nat.not_lt.mpr c_81_18]; omega) | (revert c_8_1 hc_m0 c_53_13 hpl hq1 hq2 c_81_18; simp +contextual [tParty, Int32.not_lt, Int32.not_le]; done) | (revert c_8_1 hc_m0 c_53_13 hpl hq1 hq2 c_81_18; simp +contextual [tParty, Int32.not_lt, Int32.not_le]; omega)
        have ew_26 : (MW a cI (partyZ z pr pf m0) (nI (saveN ns)) (saveH z zh ns) (nI nl) tx (nI 0) pa rd nu pt wy za : va_W) = (MW a cI (if tParty z (nI m0) = 0 then partyZ z (cl (placeForI z (cl (nI m0))) / 100) (cl (placeForI z (cl (nI m0))) % 100) (cl (nI m0)) else z) (nI (if tParty z (nI m0) = 0 then saveN ns else ns)) (if tParty z (nI m0) = 0 then saveH z zh ns else zh) (nI nl) tx (nI (tParty z (nI m0))) pa rd nu pt wy za) := mw_c ec_z_22 ec_st_23 ec_zh_24 rfl rfl ec_th_25 rfl rfl rfl rfl rfl rfl
        rw [ew_26] at hP hD
        subst hw0
        exact kq_iret hx hb hrt hlocks e_21 hP hD hS dX5_seatParty_118
      · refine lv_aload_n hx hb dX5_seatParty_84 rfl (lv_at hl 1 rfl) ?_
        refine lv_iload_n hx hb dX5_seatParty_85 rfl (lv_at hl 0 rfl) ?_
        refine lv_bipush (v := nI 100) hx hb dX5_seatParty_86 (by decide) ?_
        refine kx_idiv hx hb (by omega) (by omega) (by omega) dX5_seatParty_88 ?_
        refine kx_top (show (nI ((100 * pr + pf) / 100) : Int32) = nI pr from by rw [show (100 * pr + pf) / 100 = pr by omega]) ?_
        refine lv_iconst (v := nI 3) hx hb dX5_seatParty_89 (by decide) ?_
        refine lv_aload_n hx hb dX5_seatParty_90 rfl (lv_at hl 1 rfl) ?_
        refine lv_iload_n hx hb dX5_seatParty_91 rfl (lv_at hl 0 rfl) ?_
        refine lv_bipush (v := nI 100) hx hb dX5_seatParty_92 (by decide) ?_
        refine kx_idiv hx hb (by omega) (by omega) (by omega) dX5_seatParty_94 ?_
        refine kx_top (show (nI ((100 * pr + pf) / 100) : Int32) = nI pr from by rw [show (100 * pr + pf) / 100 = pr by omega]) ?_
        refine lv_iconst (v := nI 3) hx hb dX5_seatParty_95 (by decide) ?_
        refine kr_V (As := [.int (nI pr), .int (nI 3)]) (rest := [.int (nI 3), .int (nI pr), .ref (a 0)]) (C := RX5) (own := RX5) ⟨hx, hb, hml, hown, hts⟩ (c_X5_of l D cI cC cH cL a (partyZ z pr pf ik) (saveH z zh ns) tx pa wy (nI (saveN ns)) (nI nl) (nI 0) rd nu pt za pr 3 (by first | assumption | omega)) (cwV 2 hts gX5_seatParty_X5_of rfl rfl rfl k_X5_of ⟨Nat.le_of_ble_eq_true rfl, Nat.le_of_ble_eq_true rfl⟩) hP hK (va_recv (q := (RX5, TX5, 12)) hK hP (ci := 5) (q0 := 0) rfl rfl) rfl hl.1 rfl (Nat.le_of_ble_eq_true rfl) dX5_seatParty_96 ⟨Nat.le_of_ble_eq_true rfl, Nat.le_of_ble_eq_true rfl⟩ ?_
        refine lv_iconst (v := nI 1) hx hb dX5_seatParty_99 (by decide) ?_
        refine lv_iload_n hx hb dX5_seatParty_100 rfl (lv_at hl 0 rfl) ?_
        refine lv_bipush (v := nI 100) hx hb dX5_seatParty_101 (by decide) ?_
        refine kx_irem hx hb (by omega) (by omega) (by omega) dX5_seatParty_103 ?_
        refine kx_top (show (nI ((100 * pr + pf) % 100) : Int32) = nI pf from by rw [show (100 * pr + pf) % 100 = pf by omega]) ?_
        refine lv_iload_n hx hb dX5_seatParty_104 rfl (lv_at hl 3 rfl) ?_
        refine kx_iadd hx hb dX5_seatParty_105 ?_
        refine lv_ishl hx hb dX5_seatParty_106 ?_
        refine lv_ior hx hb dX5_seatParty_107 ?_
        refine kw_V (As := [.int (nI pr), .int (nI 3), .int (((partyZ z pr pf ik) (5 + 4 * pr + 3)) ||| ((nI 1) <<< ((nI (pf + ik)) &&& 31)))]) (rest := []) (C := RX5) (own := RX5) ⟨hx, hb, hml, hown, hts⟩ (c_X5_put l D cI cC cH cL a (partyZ z pr pf ik) (saveH z zh ns) tx pa wy (nI (saveN ns)) (nI nl) (nI 0) rd nu pt za pr 3 (((partyZ z pr pf ik) (5 + 4 * pr + 3)) ||| ((nI 1) <<< ((nI (pf + ik)) &&& 31))) (by first | assumption | omega)) (cwV 3 hts gX5_seatParty_X5_put rfl rfl rfl k_X5_put ⟨Nat.le_of_ble_eq_true rfl, Nat.le_of_ble_eq_true rfl⟩) hP hD hK hS [0, 1, 2, 3, 4, 5] [] rfl rfl (wr := []) rfl (by decide) (by decide) (by decide) (va_recv (q := (RX5, TX5, 12)) hK hP (ci := 5) (q0 := 0) rfl rfl) rfl hl.1 rfl (Nat.le_of_ble_eq_true rfl) dX5_seatParty_108 ⟨Nat.le_of_ble_eq_true rfl, Nat.le_of_ble_eq_true rfl⟩ (fun H locs hP hD hS => ?_)
        have hP : va_P D vwCl (MW a cI (upd (partyZ z pr pf ik) (5 + 4 * pr + 3) (((partyZ z pr pf ik) (5 + 4 * pr + 3)) ||| ((nI 1) <<< ((nI (pf + ik)) &&& 31)))) (nI (saveN ns)) (saveH z zh ns) (nI nl) tx (nI 0) pa rd nu pt wy za) H := hP
        have hD : va_D (kA w0) (MW a cI (upd (partyZ z pr pf ik) (5 + 4 * pr + 3) (((partyZ z pr pf ik) (5 + 4 * pr + 3)) ||| ((nI 1) <<< ((nI (pf + ik)) &&& 31)))) (nI (saveN ns)) (saveH z zh ns) (nI nl) tx (nI 0) pa rd nu pt wy za) := hD
        refine lv_iinc (v := nI (ik + 1)) (lv' := [(3, .int (nI (ik + 1))), (2, .int (nI (100 * pr + pf))), (0, .ref (a 0)), (1, .int (nI m0))]) hx hb dX5_seatParty_111 hl (k := 3) rfl (kx_inc 1) (by decide) rfl (fun ls hl => ?_)
        refine lv_goto (tgt := 79) hx hb dX5_seatParty_114 (by decide) ?_
        have e79_27 : (ik + 1 : Nat) = ((ik + 1)) := by first | rfl | omega | (simp [tParty, Int32.not_lt, Int32.not_le, c_8_1, hc_m0, c_53_13, hpl, hq1, hq2, nI_ne_m1 (show 100 * pr + pf < 2 ^ 31 by omega), c_81_19, Nat.not_le.mpr c_81_19]; done) | (simp [tParty, Int32.not_lt, Int32.not_le, c_8_1, hc_m0, c_53_13, hpl, hq1, hq2, nI_ne_m1 (show 100 * pr + pf < 2 ^ 31 by omega), c_81_19, Nat.not_le.mpr c_81_19]; omega) | (revert c_8_1 hc_m0 c_53_13 hpl hq1 hq2 c_81_19; simp +contextual [tParty, Int32.not_lt, Int32.not_le]; done) | (revert c_8_1 hc_m0 c_53_13 hpl hq1 hq2 c_81_19; simp +contextual [tParty, Int32.not_lt, Int32.not_le]; omega)
        have hl79_28 : lv_has ls 4 [(2, .int (nI (100 * pr + pf))), (0, .ref (a 0)), (1, .int (nI m0)), (3, .int (nI (ik + 1)))] := lv_eqv (l1 := [(2, .int (nI (100 * pr + pf))), (0, .ref (a 0)), (1, .int (nI m0)), (3, .int (nI (ik + 1)))]) (lv_sub hl [1, 2, 3, 0] rfl) (lv_ce rfl (lv_ce rfl (lv_ce rfl (lv_ce (congrArg (fun x => Value.int (nI x)) e79_27) rfl))))
        have ec_z_29 : ((upd (partyZ z pr pf ik) (5 + 4 * pr + 3) (((partyZ z pr pf ik) (5 + 4 * pr + 3)) ||| ((nI 1) <<< ((nI (pf + ik)) &&& 31)))) : ZZ) = (partyZ z pr pf (ik + 1)) := by rfl
        have ew_30 : (MW a cI (upd (partyZ z pr pf ik) (5 + 4 * pr + 3) (((partyZ z pr pf ik) (5 + 4 * pr + 3)) ||| ((nI 1) <<< ((nI (pf + ik)) &&& 31)))) (nI (saveN ns)) (saveH z zh ns) (nI nl) tx (nI 0) pa rd nu pt wy za : va_W) = (MW a cI (partyZ z pr pf (ik + 1)) (nI (saveN ns)) (saveH z zh ns) (nI nl) tx (nI 0) pa rd nu pt wy za) := mw_c ec_z_29 rfl rfl rfl rfl rfl rfl rfl rfl rfl rfl rfl
        rw [ew_30] at hP hD
        exact ih79 _ _ _ (by omega) ⟨⟨hP, hD, hS⟩, hl79_28⟩
    · have c_53_14 : ((placeForI z m0) : Int32) = (-1) := c_53_14
      refine lv_iconst (v := nI 2) hx hb dX5_seatParty_56 (by decide) ?_
      refine lv_goto (tgt := 61) hx hb dX5_seatParty_57 (by decide) ?_
      refine va_put (D := D) (ci := 5) (v := .int (nI 2)) (ty := .int) (C := RX5) (T := TX5) (N := 12) hx hb hts iX5_seatParty_5 tyX5 tyX5_ok nmX5 hown hK hP hD hS 0 rfl rfl 5 (by decide) (hts (.fieldLink RX5 25 "HallSightsModel" "thrown" "I") (List.mem_of_getElem? (i := 1) rfl)) (fun _ h9 => h9) rfl (by decide +kernel) rfl rfl (Nat.le_of_ble_eq_true rfl) dX5_seatParty_61 (fun H locs hP hD hS => ?_)
      have hP : va_P D vwCl (MW a cI z (nI ns) zh (nI nl) tx (nI 2) pa rd nu pt wy za) H := hP
      have hD : va_D (kA w0) (MW a cI z (nI ns) zh (nI nl) tx (nI 2) pa rd nu pt wy za) := hD
      refine lv_aload_n hx hb dX5_seatParty_64 rfl (lv_at hl 1 rfl) ?_
      refine va_get (D := D) (ci := 5) (v := .int (nI 2)) (C := RX5) (T := TX5) (N := 12) hx hb hts iX5_seatParty_5 hown hK hP 0 rfl rfl 5 (by decide) (hts (.fieldLink RX5 25 "HallSightsModel" "thrown" "I") (List.mem_of_getElem? (i := 1) rfl)) (fun _ h9 => h9) rfl dX5_seatParty_65 ?_
      refine kx_if_le (tgt := 73) hx hb (by omega) dX5_seatParty_68 (by decide) (fun c => absurd c (by omega)) (fun c_68_31 => ?_)
      refine lv_iconst (v := nI 0) hx hb dX5_seatParty_71 (by decide) ?_
      have e_32 : (nI 0 : Int32) = (if tParty z (nI m0) = 0 then placeForI z (cl (nI m0)) else nI 0) := by first | rfl | omega | (simp [tParty, Int32.not_lt, Int32.not_le, c_8_1, hc_m0, c_53_14]; done) | (simp [tParty, Int32.not_lt, Int32.not_le, c_8_1, hc_m0, c_53_14]; omega) | (revert c_8_1 hc_m0 c_53_14; simp +contextual [tParty, Int32.not_lt, Int32.not_le]; done) | (revert c_8_1 hc_m0 c_53_14; simp +contextual [tParty, Int32.not_lt, Int32.not_le]; omega)
      have ec_z_33 : (z : ZZ) = (if tParty z (nI m0) = 0 then partyZ z (cl (placeForI z (cl (nI m0))) / 100) (cl (placeForI z (cl (nI m0))) % 100) (cl (nI m0)) else z) := by first | rfl | omega | (simp [tParty, Int32.not_lt, Int32.not_le, c_8_1, hc_m0, c_53_14]; done) | (simp [tParty, Int32.not_lt, Int32.not_le, c_8_1, hc_m0, c_53_14]; omega) | (revert c_8_1 hc_m0 c_53_14; simp +contextual [tParty, Int32.not_lt, Int32.not_le]; done) | (revert c_8_1 hc_m0 c_53_14; simp +contextual [tParty, Int32.not_lt, Int32.not_le]; omega)
      have ec_st_34 : ((nI ns) : Int32) = (nI (if tParty z (nI m0) = 0 then saveN ns else ns)) := by first | rfl | omega | (simp [tParty, Int32.not_lt, Int32.not_le, c_8_1, hc_m0, c_53_14]; done) | (simp [tParty, Int32.not_lt, Int32.not_le, c_8_1, hc_m0, c_53_14]; omega) | (revert c_8_1 hc_m0 c_53_14; simp +contextual [tParty, Int32.not_lt, Int32.not_le]; done) | (revert c_8_1 hc_m0 c_53_14; simp +contextual [tParty, Int32.not_lt, Int32.not_le]; omega)
      have ec_zh_35 : (zh : ZZ) = (if tParty z (nI m0) = 0 then saveH z zh ns else zh) := by first | rfl | omega | (simp [tParty, Int32.not_lt, Int32.not_le, c_8_1, hc_m0, c_53_14]; done) | (simp [tParty, Int32.not_lt, Int32.not_le, c_8_1, hc_m0, c_53_14]; omega) | (revert c_8_1 hc_m0 c_53_14; simp +contextual [tParty, Int32.not_lt, Int32.not_le]; done) | (revert c_8_1 hc_m0 c_53_14; simp +contextual [tParty, Int32.not_lt, Int32.not_le]; omega)
      have ec_th_36 : ((nI 2) : Int32) = (nI (tParty z (nI m0))) := by first | rfl | omega | (simp [tParty, Int32.not_lt, Int32.not_le, c_8_1, hc_m0, c_53_14]; done) | (simp [tParty, Int32.not_lt, Int32.not_le, c_8_1, hc_m0, c_53_14]; omega) | (revert c_8_1 hc_m0 c_53_14; simp +contextual [tParty, Int32.not_lt, Int32.not_le]; done) | (revert c_8_1 hc_m0 c_53_14; simp +contextual [tParty, Int32.not_lt, Int32.not_le]; omega)
      have ew_37 : (MW a cI z (nI ns) zh (nI nl) tx (nI 2) pa rd nu pt wy za : va_W) = (MW a cI (if tParty z (nI m0) = 0 then partyZ z (cl (placeForI z (cl (nI m0))) / 100) (cl (placeForI z (cl (nI m0))) % 100) (cl (nI m0)) else z) (nI (if tParty z (nI m0) = 0 then saveN ns else ns)) (if tParty z (nI m0) = 0 then saveH z zh ns else zh) (nI nl) tx (nI (tParty z (nI m0))) pa rd nu pt wy za) := mw_c ec_z_33 ec_st_34 ec_zh_35 rfl rfl ec_th_36 rfl rfl rfl rfl rfl rfl
      rw [ew_37] at hP hD
      subst hw0
      exact kq_iret hx hb hrt hlocks e_32 hP hD hS dX5_seatParty_72
set_option maxRecDepth 20000 in
theorem iX5_clear_5 : ∀ w ∈ wsX50, w ∈ wsX5_clear := by decide +kernel
set_option maxHeartbeats 4000000 in
set_option maxRecDepth 100000 in
theorem c_X5_clear (l : Launch) (D : va_G) (cI cC cH cL : ClassId) (a : Nat → Nat) (z zh tx pa wy : ZZ) (ns nl : Nat) (th rd nu pt : Int32) (za : Int64)  (hw : WF z) (hn : ns ≤ 6) : Met l yX5_clear wsX5_clear ({ frames := 4, cells := 0, slots := 0, locals := 89 }) (kw [.ref (a 0)] D (MW a cI z (nI ns) zh (nI nl) tx th pa rd nu pt wy za) (kT cI cC cH cL)) (kq D (MW a cI z (nI ns) zh (nI nl) tx th pa rd nu pt wy za) (MW a cI (clrZ z) (nI (saveN ns)) (saveH z zh ns) (nI nl) tx (nI 0) pa rd nu pt wy za) (.returned (some (.int (nI (takenAll z)))))) 0 0 (kA (MW a cI z (nI ns) zh (nI nl) tx th pa rd nu pt wy za)) := by
  refine Met.ofW (cc := cX5_clear) (maxL := 3) (ret := (some .int)) (by decide) rfl ?_
  intro p e s m args below meth c s₁ B hml hv
  obtain ⟨rfl, hP, hK, hD0⟩ := hv
  have hx := B.exec
  have hb := B.bytes
  have hrt := B.returns
  have hts := atoms_spec (ws := wsX5_clear) B.pre
  have hown : s.vm.findClass RX5 = some m.cls := findClass_of_methodNamed B.named
  have hlocks := B.notSynchronized
  have hl := lv_entry ([.ref (a 0)]) (n := 3) (Nat.le_of_ble_eq_true rfl)
  rw [lg_entry_eq]
  generalize (lg_sl ([.ref (a 0)]) ++ List.replicate (3 - (lg_sl ([.ref (a 0)])).length) Slot.unset).toArray = ls at hl ⊢
  have hl : lv_has ls 3 [(0, .ref (a 0))] := hl
  have hD := kA_self hD0
  obtain ⟨w0, hw0⟩ : ∃ w : va_W, w = MW a cI z (nI ns) zh (nI nl) tx th pa rd nu pt wy za := ⟨_, rfl⟩
  have hD : va_D (kA w0) (MW a cI z (nI ns) zh (nI nl) tx th pa rd nu pt wy za) := by rw [hw0]; exact hD
  have hS : va_S (kA w0) s.heap s.heap [] := va_S.rf
  rw [show kA (MW a cI z (nI ns) zh (nI nl) tx th pa rd nu pt wy za) = kA w0 from by rw [hw0], show kq D (MW a cI z (nI ns) zh (nI nl) tx th pa rd nu pt wy za) = kq D w0 from by rw [hw0]]
  have hP : va_P D vwCl (MW a cI z (nI ns) zh (nI nl) tx th pa rd nu pt wy za) s.heap := hP
  have hR10 := wf_R10 hw
  have hC4 := wf_C4 hw
  refine lv_aload_n hx hb dX5_clear_0 rfl (lv_at hl 0 rfl) ?_
  refine lv_iconst (v := nI 0) hx hb dX5_clear_1 (by decide) ?_
  refine va_put (D := D) (ci := 5) (v := .int (nI 0)) (ty := .int) (C := RX5) (T := TX5) (N := 12) hx hb hts iX5_clear_5 tyX5 tyX5_ok nmX5 hown hK hP hD hS 0 rfl rfl 5 (by decide) (hts (.fieldLink RX5 25 "HallSightsModel" "thrown" "I") (List.mem_of_getElem? (i := 1) rfl)) (fun _ h9 => h9) rfl (by decide +kernel) rfl rfl (Nat.le_of_ble_eq_true rfl) dX5_clear_2 (fun H locs hP hD hS => ?_)
  have hP : va_P D vwCl (MW a cI z (nI ns) zh (nI nl) tx (nI 0) pa rd nu pt wy za) H := hP
  have hD : va_D (kA w0) (MW a cI z (nI ns) zh (nI nl) tx (nI 0) pa rd nu pt wy za) := hD
  refine lv_aload_n hx hb dX5_clear_5 rfl (lv_at hl 0 rfl) ?_
  refine kw_V (As := []) (rest := []) (C := RX5) (own := RX5) ⟨hx, hb, hml, hown, hts⟩ (c_X5_save l D cI cC cH cL a z zh tx pa wy ns nl (nI 0) rd nu pt za  (by first | assumption | omega)) (cwV 0 hts gX5_clear_X5_save rfl rfl rfl k_X5_save ⟨Nat.le_of_ble_eq_true rfl, Nat.le_of_ble_eq_true rfl⟩) hP hD hK hS [0, 1, 2, 3, 4, 5] [] rfl rfl (wr := []) rfl (by decide) (by decide) (by decide) (va_recv (q := (RX5, TX5, 12)) hK hP (ci := 5) (q0 := 0) rfl rfl) rfl hl.1 rfl (Nat.le_of_ble_eq_true rfl) dX5_clear_6 ⟨Nat.le_of_ble_eq_true rfl, Nat.le_of_ble_eq_true rfl⟩ (fun H locs hP hD hS => ?_)
  have hP : va_P D vwCl (MW a cI z (nI (saveN ns)) (saveH z zh ns) (nI nl) tx (nI 0) pa rd nu pt wy za) H := hP
  have hD : va_D (kA w0) (MW a cI z (nI (saveN ns)) (saveH z zh ns) (nI nl) tx (nI 0) pa rd nu pt wy za) := hD
  refine lv_aload_n hx hb dX5_clear_9 rfl (lv_at hl 0 rfl) ?_
  refine kr_V (As := []) (rest := []) (C := RX5) (own := RX5) ⟨hx, hb, hml, hown, hts⟩ (c_X5_allTaken l D cI cC cH cL a z (saveH z zh ns) tx pa wy (nI (saveN ns)) (nI nl) (nI 0) rd nu pt za  (by first | assumption | omega)) (cwV 0 hts gX5_clear_X5_allTaken rfl rfl rfl k_X5_allTaken ⟨Nat.le_of_ble_eq_true rfl, Nat.le_of_ble_eq_true rfl⟩) hP hK (va_recv (q := (RX5, TX5, 12)) hK hP (ci := 5) (q0 := 0) rfl rfl) rfl hl.1 rfl (Nat.le_of_ble_eq_true rfl) dX5_clear_10 ⟨Nat.le_of_ble_eq_true rfl, Nat.le_of_ble_eq_true rfl⟩ ?_
  refine lv_istore_n (lv' := [(1, .int (nI (takenAll z))), (0, .ref (a 0))]) hx hb dX5_clear_13 rfl hl (by decide) rfl (fun ls hl => ?_)
  refine lv_iconst (v := nI 0) hx hb dX5_clear_14 (by decide) ?_
  refine lv_istore_n (lv' := [(2, .int (nI 0)), (1, .int (nI (takenAll z))), (0, .ref (a 0))]) hx hb dX5_clear_15 rfl hl (by decide) rfl (fun ls hl => ?_)
  have ec_z_0 : (z : ZZ) = (clrS z 0) := by funext jj; simp only [upd, clrS]; (repeat' split) <;> first | rfl | omega | (exfalso; omega) | (congr 1; omega)
  have ew_1 : (MW a cI z (nI (saveN ns)) (saveH z zh ns) (nI nl) tx (nI 0) pa rd nu pt wy za : va_W) = (MW a cI (clrS z 0) (nI (saveN ns)) (saveH z zh ns) (nI nl) tx (nI 0) pa rd nu pt wy za) := mw_c ec_z_0 rfl rfl rfl rfl rfl rfl rfl rfl rfl rfl rfl
  rw [ew_1] at hP hD
  refine kx_upW (fun k H locs ls => (va_P D vwCl (MW a cI (clrS z k) (nI (saveN ns)) (saveH z zh ns) (nI nl) tx (nI 0) pa rd nu pt wy za) H ∧ va_D (kA w0) (MW a cI (clrS z k) (nI (saveN ns)) (saveH z zh ns) (nI nl) tx (nI 0) pa rd nu pt wy za) ∧ va_S (kA w0) s.heap H locs) ∧ lv_has ls 3 [(1, .int (nI (takenAll z))), (0, .ref (a 0)), (2, .int (nI k))]) (0) (nR z) (by omega) _ _ ls ⟨⟨hP, hD, hS⟩, (lv_sub hl [1, 2, 0] rfl)⟩ ?_
  clear hP hD hS
  intro ik H locs ls hikl hikh hp ih16
  obtain ⟨⟨hP, hD, hS⟩, hp⟩ := hp
  have hl := hp
  refine lv_iload_n hx hb dX5_clear_16 rfl (lv_at hl 2 rfl) ?_
  refine lv_aload_n hx hb dX5_clear_17 rfl (lv_at hl 1 rfl) ?_
  refine va_get (D := D) (ci := 5) (v := .ref (a 1)) (C := RX5) (T := TX5) (N := 12) hx hb hts iX5_clear_5 hown hK hP 0 rfl rfl 0 (by decide) (hts (.fieldLink RX5 7 "HallSightsModel" "z" "[I") (List.mem_of_getElem? (i := 2) rfl)) (fun _ h9 => h9) rfl dX5_clear_18 ?_
  refine lv_iconst (v := nI 3) hx hb dX5_clear_21 (by decide) ?_
  refine kx_iald hx hb hK hP 1 0 rfl rfl (by omega) (by decide) dX5_clear_22 ?_
  refine kx_top (show ((clrS z ik) 3 : Int32) = nI (nR z) from by (unfold clrS; rw [if_neg (by omega)]; exact wf_R hw)) ?_
  refine kx_icmp_ge (tgt := 39) hx hb (by omega) (by omega) dX5_clear_23 (by decide) (fun c_23_2 => ?_) (fun c_23_3 => ?_)
  · have hq4 : nR z = ik := by omega
    subst hq4
    refine lv_iload_n hx hb dX5_clear_39 rfl (lv_at hl 0 rfl) ?_
    have ec_z_5 : ((clrS z (nR z)) : ZZ) = (clrZ z) := by first | rfl | omega | (simp [clrZ, Int32.not_lt, Int32.not_le, c_23_2, Nat.not_lt.mpr c_23_2]; done) | (simp [clrZ, Int32.not_lt, Int32.not_le, c_23_2, Nat.not_lt.mpr c_23_2]; omega) | (revert c_23_2; simp +contextual [clrZ, Int32.not_lt, Int32.not_le]; done) | (revert c_23_2; simp +contextual [clrZ, Int32.not_lt, Int32.not_le]; omega)
    have ew_6 : (MW a cI (clrS z (nR z)) (nI (saveN ns)) (saveH z zh ns) (nI nl) tx (nI 0) pa rd nu pt wy za : va_W) = (MW a cI (clrZ z) (nI (saveN ns)) (saveH z zh ns) (nI nl) tx (nI 0) pa rd nu pt wy za) := mw_c ec_z_5 rfl rfl rfl rfl rfl rfl rfl rfl rfl rfl rfl
    rw [ew_6] at hP hD
    subst hw0
    exact kq_iret hx hb hrt hlocks rfl hP hD hS dX5_clear_40
  · refine lv_aload_n hx hb dX5_clear_26 rfl (lv_at hl 1 rfl) ?_
    refine lv_iload_n hx hb dX5_clear_27 rfl (lv_at hl 2 rfl) ?_
    refine lv_iconst (v := nI 3) hx hb dX5_clear_28 (by decide) ?_
    refine lv_iconst (v := nI 0) hx hb dX5_clear_29 (by decide) ?_
    refine kw_V (As := [.int (nI ik), .int (nI 3), .int (nI 0)]) (rest := []) (C := RX5) (own := RX5) ⟨hx, hb, hml, hown, hts⟩ (c_X5_put l D cI cC cH cL a (clrS z ik) (saveH z zh ns) tx pa wy (nI (saveN ns)) (nI nl) (nI 0) rd nu pt za ik 3 (nI 0) (by first | assumption | omega)) (cwV 3 hts gX5_clear_X5_put rfl rfl rfl k_X5_put ⟨Nat.le_of_ble_eq_true rfl, Nat.le_of_ble_eq_true rfl⟩) hP hD hK hS [0, 1, 2, 3, 4, 5] [] rfl rfl (wr := []) rfl (by decide) (by decide) (by decide) (va_recv (q := (RX5, TX5, 12)) hK hP (ci := 5) (q0 := 0) rfl rfl) rfl hl.1 rfl (Nat.le_of_ble_eq_true rfl) dX5_clear_30 ⟨Nat.le_of_ble_eq_true rfl, Nat.le_of_ble_eq_true rfl⟩ (fun H locs hP hD hS => ?_)
    have hP : va_P D vwCl (MW a cI (upd (clrS z ik) (5 + 4 * ik + 3) (nI 0)) (nI (saveN ns)) (saveH z zh ns) (nI nl) tx (nI 0) pa rd nu pt wy za) H := hP
    have hD : va_D (kA w0) (MW a cI (upd (clrS z ik) (5 + 4 * ik + 3) (nI 0)) (nI (saveN ns)) (saveH z zh ns) (nI nl) tx (nI 0) pa rd nu pt wy za) := hD
    refine lv_iinc (v := nI (ik + 1)) (lv' := [(2, .int (nI (ik + 1))), (1, .int (nI (takenAll z))), (0, .ref (a 0))]) hx hb dX5_clear_33 hl (k := 2) rfl (kx_inc 1) (by decide) rfl (fun ls hl => ?_)
    refine lv_goto (tgt := 16) hx hb dX5_clear_36 (by decide) ?_
    have e16_7 : (ik + 1 : Nat) = ((ik + 1)) := by first | rfl | omega | (simp [clrZ, Int32.not_lt, Int32.not_le, c_23_3, Nat.not_le.mpr c_23_3]; done) | (simp [clrZ, Int32.not_lt, Int32.not_le, c_23_3, Nat.not_le.mpr c_23_3]; omega) | (revert c_23_3; simp +contextual [clrZ, Int32.not_lt, Int32.not_le]; done) | (revert c_23_3; simp +contextual [clrZ, Int32.not_lt, Int32.not_le]; omega)
    have hl16_8 : lv_has ls 3 [(1, .int (nI (takenAll z))), (0, .ref (a 0)), (2, .int (nI (ik + 1)))] := lv_eqv (l1 := [(1, .int (nI (takenAll z))), (0, .ref (a 0)), (2, .int (nI (ik + 1)))]) (lv_sub hl [1, 2, 0] rfl) (lv_ce rfl (lv_ce rfl (lv_ce (congrArg (fun x => Value.int (nI x)) e16_7) rfl)))
    have ec_z_9 : ((upd (clrS z ik) (5 + 4 * ik + 3) (nI 0)) : ZZ) = (clrS z (ik + 1)) := by funext jj; simp only [upd, clrS]; (repeat' split) <;> first | rfl | omega | (exfalso; omega) | (congr 1; omega)
    have ew_10 : (MW a cI (upd (clrS z ik) (5 + 4 * ik + 3) (nI 0)) (nI (saveN ns)) (saveH z zh ns) (nI nl) tx (nI 0) pa rd nu pt wy za : va_W) = (MW a cI (clrS z (ik + 1)) (nI (saveN ns)) (saveH z zh ns) (nI nl) tx (nI 0) pa rd nu pt wy za) := mw_c ec_z_9 rfl rfl rfl rfl rfl rfl rfl rfl rfl rfl rfl
    rw [ew_10] at hP hD
    exact ih16 _ _ _ (by omega) ⟨⟨hP, hD, hS⟩, hl16_8⟩
set_option maxRecDepth 20000 in
theorem iX5_liftAll_5 : ∀ w ∈ wsX50, w ∈ wsX5_liftAll := by decide +kernel
set_option maxHeartbeats 4000000 in
set_option maxRecDepth 100000 in
theorem c_X5_liftAll (l : Launch) (D : va_G) (cI cC cH cL : ClassId) (a : Nat → Nat) (z zh tx pa wy : ZZ) (ns nl : Nat) (th rd nu pt : Int32) (za : Int64)  (hw : WF z) (hn : ns ≤ 6) (hd : WD z) : Met l yX5_liftAll wsX5_liftAll ({ frames := 2, cells := 0, slots := 0, locals := 47 }) (kw [.ref (a 0)] D (MW a cI z (nI ns) zh (nI nl) tx th pa rd nu pt wy za) (kT cI cC cH cL)) (kq D (MW a cI z (nI ns) zh (nI nl) tx th pa rd nu pt wy za) (MW a cI ((laN z (nR z - 1)).1) (nI (saveN ns)) (saveH z zh ns) (nI nl) tx (nI 0) pa rd nu pt wy za) (.returned (some (.int (nI ((laN z (nR z - 1)).2)))))) 0 0 (kA (MW a cI z (nI ns) zh (nI nl) tx th pa rd nu pt wy za)) := by
  refine Met.ofW (cc := cX5_liftAll) (maxL := 4) (ret := (some .int)) (by decide) rfl ?_
  intro p e s m args below meth c s₁ B hml hv
  obtain ⟨rfl, hP, hK, hD0⟩ := hv
  have hx := B.exec
  have hb := B.bytes
  have hrt := B.returns
  have hts := atoms_spec (ws := wsX5_liftAll) B.pre
  have hown : s.vm.findClass RX5 = some m.cls := findClass_of_methodNamed B.named
  have hlocks := B.notSynchronized
  have hl := lv_entry ([.ref (a 0)]) (n := 4) (Nat.le_of_ble_eq_true rfl)
  rw [lg_entry_eq]
  generalize (lg_sl ([.ref (a 0)]) ++ List.replicate (4 - (lg_sl ([.ref (a 0)])).length) Slot.unset).toArray = ls at hl ⊢
  have hl : lv_has ls 4 [(0, .ref (a 0))] := hl
  have hD := kA_self hD0
  obtain ⟨w0, hw0⟩ : ∃ w : va_W, w = MW a cI z (nI ns) zh (nI nl) tx th pa rd nu pt wy za := ⟨_, rfl⟩
  have hD : va_D (kA w0) (MW a cI z (nI ns) zh (nI nl) tx th pa rd nu pt wy za) := by rw [hw0]; exact hD
  have hS : va_S (kA w0) s.heap s.heap [] := va_S.rf
  rw [show kA (MW a cI z (nI ns) zh (nI nl) tx th pa rd nu pt wy za) = kA w0 from by rw [hw0], show kq D (MW a cI z (nI ns) zh (nI nl) tx th pa rd nu pt wy za) = kq D w0 from by rw [hw0]]
  have hP : va_P D vwCl (MW a cI z (nI ns) zh (nI nl) tx th pa rd nu pt wy za) s.heap := hP
  have hR10 := wf_R10 hw
  have hC4 := wf_C4 hw
  refine lv_aload_n hx hb dX5_liftAll_0 rfl (lv_at hl 0 rfl) ?_
  refine lv_iconst (v := nI 0) hx hb dX5_liftAll_1 (by decide) ?_
  refine va_put (D := D) (ci := 5) (v := .int (nI 0)) (ty := .int) (C := RX5) (T := TX5) (N := 12) hx hb hts iX5_liftAll_5 tyX5 tyX5_ok nmX5 hown hK hP hD hS 0 rfl rfl 5 (by decide) (hts (.fieldLink RX5 25 "HallSightsModel" "thrown" "I") (List.mem_of_getElem? (i := 1) rfl)) (fun _ h9 => h9) rfl (by decide +kernel) rfl rfl (Nat.le_of_ble_eq_true rfl) dX5_liftAll_2 (fun H locs hP hD hS => ?_)
  have hP : va_P D vwCl (MW a cI z (nI ns) zh (nI nl) tx (nI 0) pa rd nu pt wy za) H := hP
  have hD : va_D (kA w0) (MW a cI z (nI ns) zh (nI nl) tx (nI 0) pa rd nu pt wy za) := hD
  refine lv_aload_n hx hb dX5_liftAll_5 rfl (lv_at hl 0 rfl) ?_
  refine kw_V (As := []) (rest := []) (C := RX5) (own := RX5) ⟨hx, hb, hml, hown, hts⟩ (c_X5_save l D cI cC cH cL a z zh tx pa wy ns nl (nI 0) rd nu pt za  (by first | assumption | omega)) (cwV 0 hts gX5_liftAll_X5_save rfl rfl rfl k_X5_save ⟨Nat.le_of_ble_eq_true rfl, Nat.le_of_ble_eq_true rfl⟩) hP hD hK hS [0, 1, 2, 3, 4, 5] [] rfl rfl (wr := []) rfl (by decide) (by decide) (by decide) (va_recv (q := (RX5, TX5, 12)) hK hP (ci := 5) (q0 := 0) rfl rfl) rfl hl.1 rfl (Nat.le_of_ble_eq_true rfl) dX5_liftAll_6 ⟨Nat.le_of_ble_eq_true rfl, Nat.le_of_ble_eq_true rfl⟩ (fun H locs hP hD hS => ?_)
  have hP : va_P D vwCl (MW a cI z (nI (saveN ns)) (saveH z zh ns) (nI nl) tx (nI 0) pa rd nu pt wy za) H := hP
  have hD : va_D (kA w0) (MW a cI z (nI (saveN ns)) (saveH z zh ns) (nI nl) tx (nI 0) pa rd nu pt wy za) := hD
  refine lv_iconst (v := nI 0) hx hb dX5_liftAll_9 (by decide) ?_
  refine lv_istore_n (lv' := [(1, .int (nI 0)), (0, .ref (a 0))]) hx hb dX5_liftAll_10 rfl hl (by decide) rfl (fun ls hl => ?_)
  refine lv_iconst (v := nI 1) hx hb dX5_liftAll_11 (by decide) ?_
  refine lv_istore_n (lv' := [(2, .int (nI 1)), (1, .int (nI 0)), (0, .ref (a 0))]) hx hb dX5_liftAll_12 rfl hl (by decide) rfl (fun ls hl => ?_)
  have e13_0 : (0 : Nat) = ((laN z 0).2) := by first | rfl | omega | (simp [laN_s, laS, Int32.not_lt, Int32.not_le]; done) | (simp [laN_s, laS, Int32.not_lt, Int32.not_le]; omega)
  have e13_1 : (1 : Nat) = (1 + 0) := by first | rfl | omega | (simp [laN_s, laS, Int32.not_lt, Int32.not_le]; done) | (simp [laN_s, laS, Int32.not_lt, Int32.not_le]; omega)
  have hl13_2 : lv_has ls 4 [(0, .ref (a 0)), (1, .int (nI ((laN z 0).2))), (2, .int (nI (1 + 0)))] := lv_eqv (l1 := [(0, .ref (a 0)), (1, .int (nI 0)), (2, .int (nI 1))]) (lv_sub hl [2, 1, 0] rfl) (lv_ce rfl (lv_ce (congrArg (fun x => Value.int (nI x)) e13_0) (lv_ce (congrArg (fun x => Value.int (nI x)) e13_1) rfl)))
  have ec_z_3 : (z : ZZ) = ((laN z 0).1) := by first | rfl | omega | (simp [laN_s, laS, Int32.not_lt, Int32.not_le]; done) | (simp [laN_s, laS, Int32.not_lt, Int32.not_le]; omega)
  have ew_4 : (MW a cI z (nI (saveN ns)) (saveH z zh ns) (nI nl) tx (nI 0) pa rd nu pt wy za : va_W) = (MW a cI ((laN z 0).1) (nI (saveN ns)) (saveH z zh ns) (nI nl) tx (nI 0) pa rd nu pt wy za) := mw_c ec_z_3 rfl rfl rfl rfl rfl rfl rfl rfl rfl rfl rfl
  rw [ew_4] at hP hD
  refine kx_upW (fun k H locs ls => (va_P D vwCl (MW a cI ((laN z k).1) (nI (saveN ns)) (saveH z zh ns) (nI nl) tx (nI 0) pa rd nu pt wy za) H ∧ va_D (kA w0) (MW a cI ((laN z k).1) (nI (saveN ns)) (saveH z zh ns) (nI nl) tx (nI 0) pa rd nu pt wy za) ∧ va_S (kA w0) s.heap H locs) ∧ lv_has ls 4 [(0, .ref (a 0)), (1, .int (nI ((laN z k).2))), (2, .int (nI (1 + k)))]) (0) (nR z - 1) (by omega) _ _ ls ⟨⟨hP, hD, hS⟩, hl13_2⟩ ?_
  clear hP hD hS
  intro ik H locs ls hikl hikh hp ih13
  obtain ⟨⟨hP, hD, hS⟩, hp⟩ := hp
  have hl := hp
  have hla := laN_wf hw hd ik (by omega)
  refine lv_iload_n hx hb dX5_liftAll_13 rfl (lv_at hl 2 rfl) ?_
  refine lv_aload_n hx hb dX5_liftAll_14 rfl (lv_at hl 0 rfl) ?_
  refine va_get (D := D) (ci := 5) (v := .ref (a 1)) (C := RX5) (T := TX5) (N := 12) hx hb hts iX5_liftAll_5 hown hK hP 0 rfl rfl 0 (by decide) (hts (.fieldLink RX5 7 "HallSightsModel" "z" "[I") (List.mem_of_getElem? (i := 2) rfl)) (fun _ h9 => h9) rfl dX5_liftAll_15 ?_
  refine lv_iconst (v := nI 3) hx hb dX5_liftAll_18 (by decide) ?_
  refine kx_iald hx hb hK hP 1 0 rfl rfl (by omega) (by decide) dX5_liftAll_19 ?_
  refine kx_top (show (((laN z ik).1) 3 : Int32) = nI (nR z) from by (rw [← hla.2.2.1]; exact wf_R hla.1)) ?_
  refine kx_icmp_ge (tgt := 62) hx hb (by omega) (by omega) dX5_liftAll_20 (by decide) (fun c_20_5 => ?_) (fun c_20_6 => ?_)
  · have hq7 : nR z - 1 = ik := by omega
    subst hq7
    refine lv_iload_n hx hb dX5_liftAll_62 rfl (lv_at hl 1 rfl) ?_
    subst hw0
    exact kq_iret hx hb hrt hlocks rfl hP hD hS dX5_liftAll_63
  · refine lv_aload_n hx hb dX5_liftAll_23 rfl (lv_at hl 0 rfl) ?_
    refine lv_iload_n hx hb dX5_liftAll_24 rfl (lv_at hl 2 rfl) ?_
    refine kr_V (As := [.int (nI (1 + ik))]) (rest := []) (C := RX5) (own := RX5) ⟨hx, hb, hml, hown, hts⟩ (c_X5_leastFor l D cI cC cH cL a ((laN z ik).1) (saveH z zh ns) tx pa wy (nI (saveN ns)) (nI nl) (nI 0) rd nu pt za (1 + ik) (by exact hla.1) (by exact hla.2.1) (by rw [hla.2.2.1]; omega)) (cwV 1 hts gX5_liftAll_X5_leastFor rfl rfl rfl k_X5_leastFor ⟨Nat.le_of_ble_eq_true rfl, Nat.le_of_ble_eq_true rfl⟩) hP hK (va_recv (q := (RX5, TX5, 12)) hK hP (ci := 5) (q0 := 0) rfl rfl) rfl hl.1 rfl (Nat.le_of_ble_eq_true rfl) dX5_liftAll_25 ⟨Nat.le_of_ble_eq_true rfl, Nat.le_of_ble_eq_true rfl⟩ ?_
    refine lv_istore_n (lv' := [(3, .int (leastForI ((laN z ik).1) (1 + ik))), (0, .ref (a 0)), (1, .int (nI ((laN z ik).2))), (2, .int (nI (1 + ik)))]) hx hb dX5_liftAll_28 rfl hl (by decide) rfl (fun ls hl => ?_)
    refine lv_aload_n hx hb dX5_liftAll_29 rfl (lv_at hl 1 rfl) ?_
    refine lv_iload_n hx hb dX5_liftAll_30 rfl (lv_at hl 3 rfl) ?_
    refine lv_iconst (v := nI 1) hx hb dX5_liftAll_31 (by decide) ?_
    refine kr_V (As := [.int (nI (1 + ik)), .int (nI 1)]) (rest := []) (C := RX5) (own := RX5) ⟨hx, hb, hml, hown, hts⟩ (c_X5_of l D cI cC cH cL a ((laN z ik).1) (saveH z zh ns) tx pa wy (nI (saveN ns)) (nI nl) (nI 0) rd nu pt za (1 + ik) 1 (by first | assumption | omega)) (cwV 2 hts gX5_liftAll_X5_of rfl rfl rfl k_X5_of ⟨Nat.le_of_ble_eq_true rfl, Nat.le_of_ble_eq_true rfl⟩) hP hK (va_recv (q := (RX5, TX5, 12)) hK hP (ci := 5) (q0 := 0) rfl rfl) rfl hl.1 rfl (Nat.le_of_ble_eq_true rfl) dX5_liftAll_32 ⟨Nat.le_of_ble_eq_true rfl, Nat.le_of_ble_eq_true rfl⟩ ?_
    refine lv_iload_n hx hb dX5_liftAll_35 rfl (lv_at hl 0 rfl) ?_
    refine lv_icmp_ge (tgt := 56) hx hb dX5_liftAll_36 (by decide) (fun c_36_8 => ?_) (fun c_36_9 => ?_)
    · have c_36_8 : ((leastForI ((laN z ik).1) (1 + ik)) : Int32) ≤ (((laN z ik).1) (5 + 4 * (1 + ik) + 1)) := c_36_8
      refine lv_iinc (v := nI ((1 + ik) + 1)) (lv' := [(2, .int (nI ((1 + ik) + 1))), (3, .int (leastForI ((laN z ik).1) (1 + ik))), (0, .ref (a 0)), (1, .int (nI ((laN z ik).2)))]) hx hb dX5_liftAll_56 hl (k := 3) rfl (kx_inc 1) (by decide) rfl (fun ls hl => ?_)
      refine lv_goto (tgt := 13) hx hb dX5_liftAll_59 (by decide) ?_
      have e13_10 : ((laN z ik).2 : Nat) = ((laN z (ik + 1)).2) := by first | rfl | omega | (simp [laN_s, laS, Int32.not_lt, Int32.not_le, c_20_6, Nat.not_le.mpr c_20_6, c_36_8, Int32.not_lt.mpr c_36_8]; done) | (simp [laN_s, laS, Int32.not_lt, Int32.not_le, c_20_6, Nat.not_le.mpr c_20_6, c_36_8, Int32.not_lt.mpr c_36_8]; omega) | (revert c_20_6 c_36_8; simp +contextual [laN_s, laS, Int32.not_lt, Int32.not_le]; done) | (revert c_20_6 c_36_8; simp +contextual [laN_s, laS, Int32.not_lt, Int32.not_le]; omega)
      have e13_11 : ((1 + ik) + 1 : Nat) = (1 + (ik + 1)) := by first | rfl | omega | (simp [laN_s, laS, Int32.not_lt, Int32.not_le, c_20_6, Nat.not_le.mpr c_20_6, c_36_8, Int32.not_lt.mpr c_36_8]; done) | (simp [laN_s, laS, Int32.not_lt, Int32.not_le, c_20_6, Nat.not_le.mpr c_20_6, c_36_8, Int32.not_lt.mpr c_36_8]; omega) | (revert c_20_6 c_36_8; simp +contextual [laN_s, laS, Int32.not_lt, Int32.not_le]; done) | (revert c_20_6 c_36_8; simp +contextual [laN_s, laS, Int32.not_lt, Int32.not_le]; omega)
      have hl13_12 : lv_has ls 4 [(0, .ref (a 0)), (1, .int (nI ((laN z (ik + 1)).2))), (2, .int (nI (1 + (ik + 1))))] := lv_eqv (l1 := [(0, .ref (a 0)), (1, .int (nI ((laN z ik).2))), (2, .int (nI ((1 + ik) + 1)))]) (lv_sub hl [2, 3, 0] rfl) (lv_ce rfl (lv_ce (congrArg (fun x => Value.int (nI x)) e13_10) (lv_ce (congrArg (fun x => Value.int (nI x)) e13_11) rfl)))
      have ec_z_13 : (((laN z ik).1) : ZZ) = ((laN z (ik + 1)).1) := by first | rfl | omega | (simp [laN_s, laS, Int32.not_lt, Int32.not_le, c_20_6, Nat.not_le.mpr c_20_6, c_36_8, Int32.not_lt.mpr c_36_8]; done) | (simp [laN_s, laS, Int32.not_lt, Int32.not_le, c_20_6, Nat.not_le.mpr c_20_6, c_36_8, Int32.not_lt.mpr c_36_8]; omega) | (revert c_20_6 c_36_8; simp +contextual [laN_s, laS, Int32.not_lt, Int32.not_le]; done) | (revert c_20_6 c_36_8; simp +contextual [laN_s, laS, Int32.not_lt, Int32.not_le]; omega)
      have ew_14 : (MW a cI ((laN z ik).1) (nI (saveN ns)) (saveH z zh ns) (nI nl) tx (nI 0) pa rd nu pt wy za : va_W) = (MW a cI ((laN z (ik + 1)).1) (nI (saveN ns)) (saveH z zh ns) (nI nl) tx (nI 0) pa rd nu pt wy za) := mw_c ec_z_13 rfl rfl rfl rfl rfl rfl rfl rfl rfl rfl rfl
      rw [ew_14] at hP hD
      exact ih13 _ _ _ (by omega) ⟨⟨hP, hD, hS⟩, hl13_12⟩
    · have c_36_9 : ¬ ((leastForI ((laN z ik).1) (1 + ik)) : Int32) ≤ (((laN z ik).1) (5 + 4 * (1 + ik) + 1)) := c_36_9
      refine lv_iload_n hx hb dX5_liftAll_39 rfl (lv_at hl 0 rfl) ?_
      refine lv_sipush (v := nI 999) hx hb dX5_liftAll_40 (by decide) ?_
      refine lv_icmp_gt (tgt := 56) hx hb dX5_liftAll_43 (by decide) (fun c_43_15 => ?_) (fun c_43_16 => ?_)
      · have c_43_15 : ((nI 999) : Int32) < (leastForI ((laN z ik).1) (1 + ik)) := c_43_15
        refine lv_iinc (v := nI ((1 + ik) + 1)) (lv' := [(2, .int (nI ((1 + ik) + 1))), (3, .int (leastForI ((laN z ik).1) (1 + ik))), (0, .ref (a 0)), (1, .int (nI ((laN z ik).2)))]) hx hb dX5_liftAll_56 hl (k := 3) rfl (kx_inc 1) (by decide) rfl (fun ls hl => ?_)
        refine lv_goto (tgt := 13) hx hb dX5_liftAll_59 (by decide) ?_
        have e13_17 : ((laN z ik).2 : Nat) = ((laN z (ik + 1)).2) := by first | rfl | omega | (simp [laN_s, laS, Int32.not_lt, Int32.not_le, c_20_6, Nat.not_le.mpr c_20_6, c_36_9, Int32.not_le.mp c_36_9, c_43_15, Int32.not_le.mpr c_43_15]; done) | (simp [laN_s, laS, Int32.not_lt, Int32.not_le, c_20_6, Nat.not_le.mpr c_20_6, c_36_9, Int32.not_le.mp c_36_9, c_43_15, Int32.not_le.mpr c_43_15]; omega) | (revert c_20_6 c_36_9 c_43_15; simp +contextual [laN_s, laS, Int32.not_lt, Int32.not_le]; done) | (revert c_20_6 c_36_9 c_43_15; simp +contextual [laN_s, laS, Int32.not_lt, Int32.not_le]; omega)
        have e13_18 : ((1 + ik) + 1 : Nat) = (1 + (ik + 1)) := by first | rfl | omega | (simp [laN_s, laS, Int32.not_lt, Int32.not_le, c_20_6, Nat.not_le.mpr c_20_6, c_36_9, Int32.not_le.mp c_36_9, c_43_15, Int32.not_le.mpr c_43_15]; done) | (simp [laN_s, laS, Int32.not_lt, Int32.not_le, c_20_6, Nat.not_le.mpr c_20_6, c_36_9, Int32.not_le.mp c_36_9, c_43_15, Int32.not_le.mpr c_43_15]; omega) | (revert c_20_6 c_36_9 c_43_15; simp +contextual [laN_s, laS, Int32.not_lt, Int32.not_le]; done) | (revert c_20_6 c_36_9 c_43_15; simp +contextual [laN_s, laS, Int32.not_lt, Int32.not_le]; omega)
        have hl13_19 : lv_has ls 4 [(0, .ref (a 0)), (1, .int (nI ((laN z (ik + 1)).2))), (2, .int (nI (1 + (ik + 1))))] := lv_eqv (l1 := [(0, .ref (a 0)), (1, .int (nI ((laN z ik).2))), (2, .int (nI ((1 + ik) + 1)))]) (lv_sub hl [2, 3, 0] rfl) (lv_ce rfl (lv_ce (congrArg (fun x => Value.int (nI x)) e13_17) (lv_ce (congrArg (fun x => Value.int (nI x)) e13_18) rfl)))
        have ec_z_20 : (((laN z ik).1) : ZZ) = ((laN z (ik + 1)).1) := by first | rfl | omega | (simp [laN_s, laS, Int32.not_lt, Int32.not_le, c_20_6, Nat.not_le.mpr c_20_6, c_36_9, Int32.not_le.mp c_36_9, c_43_15, Int32.not_le.mpr c_43_15]; done) | (simp [laN_s, laS, Int32.not_lt, Int32.not_le, c_20_6, Nat.not_le.mpr c_20_6, c_36_9, Int32.not_le.mp c_36_9, c_43_15, Int32.not_le.mpr c_43_15]; omega) | (revert c_20_6 c_36_9 c_43_15; simp +contextual [laN_s, laS, Int32.not_lt, Int32.not_le]; done) | (revert c_20_6 c_36_9 c_43_15; simp +contextual [laN_s, laS, Int32.not_lt, Int32.not_le]; omega)
        have ew_21 : (MW a cI ((laN z ik).1) (nI (saveN ns)) (saveH z zh ns) (nI nl) tx (nI 0) pa rd nu pt wy za : va_W) = (MW a cI ((laN z (ik + 1)).1) (nI (saveN ns)) (saveH z zh ns) (nI nl) tx (nI 0) pa rd nu pt wy za) := mw_c ec_z_20 rfl rfl rfl rfl rfl rfl rfl rfl rfl rfl rfl
        rw [ew_21] at hP hD
        exact ih13 _ _ _ (by omega) ⟨⟨hP, hD, hS⟩, hl13_19⟩
      · have c_43_16 : ¬ ((nI 999) : Int32) < (leastForI ((laN z ik).1) (1 + ik)) := c_43_16
        refine lv_aload_n hx hb dX5_liftAll_46 rfl (lv_at hl 1 rfl) ?_
        refine lv_iload_n hx hb dX5_liftAll_47 rfl (lv_at hl 3 rfl) ?_
        refine lv_iconst (v := nI 1) hx hb dX5_liftAll_48 (by decide) ?_
        refine lv_iload_n hx hb dX5_liftAll_49 rfl (lv_at hl 0 rfl) ?_
        refine kw_V (As := [.int (nI (1 + ik)), .int (nI 1), .int (leastForI ((laN z ik).1) (1 + ik))]) (rest := []) (C := RX5) (own := RX5) ⟨hx, hb, hml, hown, hts⟩ (c_X5_put l D cI cC cH cL a ((laN z ik).1) (saveH z zh ns) tx pa wy (nI (saveN ns)) (nI nl) (nI 0) rd nu pt za (1 + ik) 1 (leastForI ((laN z ik).1) (1 + ik)) (by first | assumption | omega)) (cwV 3 hts gX5_liftAll_X5_put rfl rfl rfl k_X5_put ⟨Nat.le_of_ble_eq_true rfl, Nat.le_of_ble_eq_true rfl⟩) hP hD hK hS [0, 1, 2, 3, 4, 5] [] rfl rfl (wr := []) rfl (by decide) (by decide) (by decide) (va_recv (q := (RX5, TX5, 12)) hK hP (ci := 5) (q0 := 0) rfl rfl) rfl hl.1 rfl (Nat.le_of_ble_eq_true rfl) dX5_liftAll_50 ⟨Nat.le_of_ble_eq_true rfl, Nat.le_of_ble_eq_true rfl⟩ (fun H locs hP hD hS => ?_)
        have hP : va_P D vwCl (MW a cI (upd ((laN z ik).1) (5 + 4 * (1 + ik) + 1) (leastForI ((laN z ik).1) (1 + ik))) (nI (saveN ns)) (saveH z zh ns) (nI nl) tx (nI 0) pa rd nu pt wy za) H := hP
        have hD : va_D (kA w0) (MW a cI (upd ((laN z ik).1) (5 + 4 * (1 + ik) + 1) (leastForI ((laN z ik).1) (1 + ik))) (nI (saveN ns)) (saveH z zh ns) (nI nl) tx (nI 0) pa rd nu pt wy za) := hD
        refine lv_iinc (v := nI (((laN z ik).2) + 1)) (lv' := [(1, .int (nI (((laN z ik).2) + 1))), (3, .int (leastForI ((laN z ik).1) (1 + ik))), (0, .ref (a 0)), (2, .int (nI (1 + ik)))]) hx hb dX5_liftAll_53 hl (k := 2) rfl (kx_inc 1) (by decide) rfl (fun ls hl => ?_)
        refine lv_iinc (v := nI ((1 + ik) + 1)) (lv' := [(2, .int (nI ((1 + ik) + 1))), (1, .int (nI (((laN z ik).2) + 1))), (3, .int (leastForI ((laN z ik).1) (1 + ik))), (0, .ref (a 0))]) hx hb dX5_liftAll_56 hl (k := 3) rfl (kx_inc 1) (by decide) rfl (fun ls hl => ?_)
        refine lv_goto (tgt := 13) hx hb dX5_liftAll_59 (by decide) ?_
        have e13_22 : (((laN z ik).2) + 1 : Nat) = ((laN z (ik + 1)).2) := by first | rfl | omega | (simp [laN_s, laS, Int32.not_lt, Int32.not_le, c_20_6, Nat.not_le.mpr c_20_6, c_36_9, Int32.not_le.mp c_36_9, c_43_16, Int32.not_lt.mp c_43_16]; done) | (simp [laN_s, laS, Int32.not_lt, Int32.not_le, c_20_6, Nat.not_le.mpr c_20_6, c_36_9, Int32.not_le.mp c_36_9, c_43_16, Int32.not_lt.mp c_43_16]; omega) | (revert c_20_6 c_36_9 c_43_16; simp +contextual [laN_s, laS, Int32.not_lt, Int32.not_le]; done) | (revert c_20_6 c_36_9 c_43_16; simp +contextual [laN_s, laS, Int32.not_lt, Int32.not_le]; omega)
        have e13_23 : ((1 + ik) + 1 : Nat) = (1 + (ik + 1)) := by first | rfl | omega | (simp [laN_s, laS, Int32.not_lt, Int32.not_le, c_20_6, Nat.not_le.mpr c_20_6, c_36_9, Int32.not_le.mp c_36_9, c_43_16, Int32.not_lt.mp c_43_16]; done) | (simp [laN_s, laS, Int32.not_lt, Int32.not_le, c_20_6, Nat.not_le.mpr c_20_6, c_36_9, Int32.not_le.mp c_36_9, c_43_16, Int32.not_lt.mp c_43_16]; omega) | (revert c_20_6 c_36_9 c_43_16; simp +contextual [laN_s, laS, Int32.not_lt, Int32.not_le]; done) | (revert c_20_6 c_36_9 c_43_16; simp +contextual [laN_s, laS, Int32.not_lt, Int32.not_le]; omega)
        have hl13_24 : lv_has ls 4 [(0, .ref (a 0)), (1, .int (nI ((laN z (ik + 1)).2))), (2, .int (nI (1 + (ik + 1))))] := lv_eqv (l1 := [(0, .ref (a 0)), (1, .int (nI (((laN z ik).2) + 1))), (2, .int (nI ((1 + ik) + 1)))]) (lv_sub hl [3, 1, 0] rfl) (lv_ce rfl (lv_ce (congrArg (fun x => Value.int (nI x)) e13_22) (lv_ce (congrArg (fun x => Value.int (nI x)) e13_23) rfl)))
        have ec_z_25 : ((upd ((laN z ik).1) (5 + 4 * (1 + ik) + 1) (leastForI ((laN z ik).1) (1 + ik))) : ZZ) = ((laN z (ik + 1)).1) := by first | rfl | omega | (simp [laN_s, laS, Int32.not_lt, Int32.not_le, c_20_6, Nat.not_le.mpr c_20_6, c_36_9, Int32.not_le.mp c_36_9, c_43_16, Int32.not_lt.mp c_43_16]; done) | (simp [laN_s, laS, Int32.not_lt, Int32.not_le, c_20_6, Nat.not_le.mpr c_20_6, c_36_9, Int32.not_le.mp c_36_9, c_43_16, Int32.not_lt.mp c_43_16]; omega) | (revert c_20_6 c_36_9 c_43_16; simp +contextual [laN_s, laS, Int32.not_lt, Int32.not_le]; done) | (revert c_20_6 c_36_9 c_43_16; simp +contextual [laN_s, laS, Int32.not_lt, Int32.not_le]; omega)
        have ew_26 : (MW a cI (upd ((laN z ik).1) (5 + 4 * (1 + ik) + 1) (leastForI ((laN z ik).1) (1 + ik))) (nI (saveN ns)) (saveH z zh ns) (nI nl) tx (nI 0) pa rd nu pt wy za : va_W) = (MW a cI ((laN z (ik + 1)).1) (nI (saveN ns)) (saveH z zh ns) (nI nl) tx (nI 0) pa rd nu pt wy za) := mw_c ec_z_25 rfl rfl rfl rfl rfl rfl rfl rfl rfl rfl rfl
        rw [ew_26] at hP hD
        exact ih13 _ _ _ (by omega) ⟨⟨hP, hD, hS⟩, hl13_24⟩
set_option maxRecDepth 20000 in
theorem iX5_append_5 : ∀ w ∈ wsX50, w ∈ wsX5_append := by decide +kernel
set_option maxHeartbeats 4000000 in
set_option maxRecDepth 100000 in
theorem c_X5_append (l : Launch) (D : va_G) (cI cC cH cL : ClassId) (a : Nat → Nat) (z zh tx pa wy : ZZ) (ns nl : Nat) (th rd nu pt : Int32) (za : Int64) (c0 : Int32) (hl : nl ≤ 60) : Met l yX5_append wsX5_append ({ frames := 1, cells := 0, slots := 0, locals := 22 }) (kw [.ref (a 0), .int c0] D (MW a cI z (nI ns) zh (nI nl) tx th pa rd nu pt wy za) (kT cI cC cH cL)) (kq D (MW a cI z (nI ns) zh (nI nl) tx th pa rd nu pt wy za) (MW a cI z (nI ns) zh (nI (if tApp c0 nl = 0 then nl + 1 else nl)) (if tApp c0 nl = 0 then upd tx nl c0 else tx) (nI (tApp c0 nl)) pa rd nu pt wy za) (.returned (some (.int (if tApp c0 nl = 0 then nI (nl + 1) else nI 0))))) 0 0 (kA (MW a cI z (nI ns) zh (nI nl) tx th pa rd nu pt wy za)) := by
  refine Met.ofW (cc := cX5_append) (maxL := 2) (ret := (some .int)) (by decide) rfl ?_
  intro p e s m args below meth c s₁ B hml hv
  obtain ⟨rfl, hP, hK, hD0⟩ := hv
  have hx := B.exec
  have hb := B.bytes
  have hrt := B.returns
  have hts := atoms_spec (ws := wsX5_append) B.pre
  have hown : s.vm.findClass RX5 = some m.cls := findClass_of_methodNamed B.named
  have hlocks := B.notSynchronized
  have hl := lv_entry ([.ref (a 0), .int c0]) (n := 2) (Nat.le_of_ble_eq_true rfl)
  rw [lg_entry_eq]
  generalize (lg_sl ([.ref (a 0), .int c0]) ++ List.replicate (2 - (lg_sl ([.ref (a 0), .int c0])).length) Slot.unset).toArray = ls at hl ⊢
  have hl : lv_has ls 2 [(0, .ref (a 0)), (1, .int c0)] := hl
  have hD := kA_self hD0
  obtain ⟨w0, hw0⟩ : ∃ w : va_W, w = MW a cI z (nI ns) zh (nI nl) tx th pa rd nu pt wy za := ⟨_, rfl⟩
  have hD : va_D (kA w0) (MW a cI z (nI ns) zh (nI nl) tx th pa rd nu pt wy za) := by rw [hw0]; exact hD
  have hS : va_S (kA w0) s.heap s.heap [] := va_S.rf
  rw [show kA (MW a cI z (nI ns) zh (nI nl) tx th pa rd nu pt wy za) = kA w0 from by rw [hw0], show kq D (MW a cI z (nI ns) zh (nI nl) tx th pa rd nu pt wy za) = kq D w0 from by rw [hw0]]
  have hP : va_P D vwCl (MW a cI z (nI ns) zh (nI nl) tx th pa rd nu pt wy za) s.heap := hP
  refine lv_aload_n hx hb dX5_append_0 rfl (lv_at hl 0 rfl) ?_
  refine lv_iload_n hx hb dX5_append_1 rfl (lv_at hl 1 rfl) ?_
  refine lv_bipush (v := nI 33) hx hb dX5_append_2 (by decide) ?_
  refine lv_bipush (v := nI 126) hx hb dX5_append_4 (by decide) ?_
  refine kr_S (As := [.int c0, .int (nI 33), .int (nI 126)]) (rest := [.ref (a 0)]) (own := RX5) ⟨hx, hb, hml, hown, hts⟩ (c_X5_within l D cI cC cH cL  c0 (nI 33) (nI 126) ) (va_cwS 3 hts gX5_append_X5_within rfl rfl rfl k_X5_withinS ⟨Nat.le_of_ble_eq_true rfl, Nat.le_of_ble_eq_true rfl⟩) (hP.sub (ws' := []) [] rfl) hK rfl hl.1 rfl (Nat.le_of_ble_eq_true rfl) dX5_append_6 ⟨Nat.le_of_ble_eq_true rfl, Nat.le_of_ble_eq_true rfl⟩ ?_
  refine kx_if_neb (tgt := 16) hx hb dX5_append_9 (by decide) (fun c_9_0 => ?_) (fun c_9_1 => ?_)
  · refine lv_aload_n hx hb dX5_append_16 rfl (lv_at hl 0 rfl) ?_
    refine va_get (D := D) (ci := 5) (v := .int (nI nl)) (C := RX5) (T := TX5) (N := 12) hx hb hts iX5_append_5 hown hK hP 0 rfl rfl 3 (by decide) (hts (.fieldLink RX5 131 "HallSightsModel" "length" "I") (List.mem_of_getElem? (i := 1) rfl)) (fun _ h9 => h9) rfl dX5_append_17 ?_
    refine lv_bipush (v := nI 60) hx hb dX5_append_20 (by decide) ?_
    refine kx_icmp_ne (tgt := 29) hx hb (by omega) (by omega) dX5_append_22 (by decide) (fun c_22_2 => ?_) (fun c_22_3 => ?_)
    · refine lv_iconst (v := nI 0) hx hb dX5_append_29 (by decide) ?_
      refine va_put (D := D) (ci := 5) (v := .int (nI 0)) (ty := .int) (C := RX5) (T := TX5) (N := 12) hx hb hts iX5_append_5 tyX5 tyX5_ok nmX5 hown hK hP hD hS 0 rfl rfl 5 (by decide) (hts (.fieldLink RX5 25 "HallSightsModel" "thrown" "I") (List.mem_of_getElem? (i := 2) rfl)) (fun _ h9 => h9) rfl (by decide +kernel) rfl rfl (Nat.le_of_ble_eq_true rfl) dX5_append_30 (fun H locs hP hD hS => ?_)
      have hP : va_P D vwCl (MW a cI z (nI ns) zh (nI nl) tx (nI 0) pa rd nu pt wy za) H := hP
      have hD : va_D (kA w0) (MW a cI z (nI ns) zh (nI nl) tx (nI 0) pa rd nu pt wy za) := hD
      refine lv_aload_n hx hb dX5_append_33 rfl (lv_at hl 0 rfl) ?_
      refine va_get (D := D) (ci := 5) (v := .int (nI 0)) (C := RX5) (T := TX5) (N := 12) hx hb hts iX5_append_5 hown hK hP 0 rfl rfl 5 (by decide) (hts (.fieldLink RX5 25 "HallSightsModel" "thrown" "I") (List.mem_of_getElem? (i := 2) rfl)) (fun _ h9 => h9) rfl dX5_append_34 ?_
      refine kx_if_le (tgt := 42) hx hb (by omega) dX5_append_37 (by decide) (fun c_37_4 => ?_) (fun c => absurd c (by omega))
      refine lv_aload_n hx hb dX5_append_42 rfl (lv_at hl 0 rfl) ?_
      refine va_get (D := D) (ci := 5) (v := .ref (a 3)) (C := RX5) (T := TX5) (N := 12) hx hb hts iX5_append_5 hown hK hP 0 rfl rfl 4 (by decide) (hts (.fieldLink RX5 16 "HallSightsModel" "text" "[I") (List.mem_of_getElem? (i := 3) rfl)) (fun _ h9 => h9) rfl dX5_append_43 ?_
      refine lv_aload_n hx hb dX5_append_46 rfl (lv_at hl 0 rfl) ?_
      refine va_get (D := D) (ci := 5) (v := .int (nI nl)) (C := RX5) (T := TX5) (N := 12) hx hb hts iX5_append_5 hown hK hP 0 rfl rfl 3 (by decide) (hts (.fieldLink RX5 131 "HallSightsModel" "length" "I") (List.mem_of_getElem? (i := 1) rfl)) (fun _ h9 => h9) rfl dX5_append_47 ?_
      refine lv_iload_n hx hb dX5_append_50 rfl (lv_at hl 1 rfl) ?_
      refine kx_iast hx hb hK hP hD hS 3 0 rfl rfl (by omega) (by decide) dX5_append_51 (fun H locs hP hD hS => ?_)
      have hP : va_P D vwCl (MW a cI z (nI ns) zh (nI nl) (upd tx nl c0) (nI 0) pa rd nu pt wy za) H := hP
      have hD : va_D (kA w0) (MW a cI z (nI ns) zh (nI nl) (upd tx nl c0) (nI 0) pa rd nu pt wy za) := hD
      refine lv_aload_n hx hb dX5_append_52 rfl (lv_at hl 0 rfl) ?_
      refine lv_dup hx hb dX5_append_53 rfl ?_
      refine va_get (D := D) (ci := 5) (v := .int (nI nl)) (C := RX5) (T := TX5) (N := 12) hx hb hts iX5_append_5 hown hK hP 0 rfl rfl 3 (by decide) (hts (.fieldLink RX5 131 "HallSightsModel" "length" "I") (List.mem_of_getElem? (i := 1) rfl)) (fun _ h9 => h9) rfl dX5_append_54 ?_
      refine lv_iconst (v := nI 1) hx hb dX5_append_57 (by decide) ?_
      refine kx_iadd hx hb dX5_append_58 ?_
      refine va_put (D := D) (ci := 5) (v := .int (nI (nl + 1))) (ty := .int) (C := RX5) (T := TX5) (N := 12) hx hb hts iX5_append_5 tyX5 tyX5_ok nmX5 hown hK hP hD hS 0 rfl rfl 3 (by decide) (hts (.fieldLink RX5 131 "HallSightsModel" "length" "I") (List.mem_of_getElem? (i := 1) rfl)) (fun _ h9 => h9) rfl (by decide +kernel) rfl rfl (Nat.le_of_ble_eq_true rfl) dX5_append_59 (fun H locs hP hD hS => ?_)
      have hP : va_P D vwCl (MW a cI z (nI ns) zh (nI (nl + 1)) (upd tx nl c0) (nI 0) pa rd nu pt wy za) H := hP
      have hD : va_D (kA w0) (MW a cI z (nI ns) zh (nI (nl + 1)) (upd tx nl c0) (nI 0) pa rd nu pt wy za) := hD
      refine lv_aload_n hx hb dX5_append_62 rfl (lv_at hl 0 rfl) ?_
      refine va_get (D := D) (ci := 5) (v := .int (nI (nl + 1))) (C := RX5) (T := TX5) (N := 12) hx hb hts iX5_append_5 hown hK hP 0 rfl rfl 3 (by decide) (hts (.fieldLink RX5 131 "HallSightsModel" "length" "I") (List.mem_of_getElem? (i := 1) rfl)) (fun _ h9 => h9) rfl dX5_append_63 ?_
      have e_5 : (nI (nl + 1) : Int32) = (if tApp c0 nl = 0 then nI (nl + 1) else nI 0) := by first | rfl | omega | (simp [tApp, Int32.not_lt, Int32.not_le, c_9_0, c_22_2]; done) | (simp [tApp, Int32.not_lt, Int32.not_le, c_9_0, c_22_2]; omega) | (revert c_9_0 c_22_2; simp +contextual [tApp, Int32.not_lt, Int32.not_le]; done) | (revert c_9_0 c_22_2; simp +contextual [tApp, Int32.not_lt, Int32.not_le]; omega)
      have ec_le_6 : ((nI (nl + 1)) : Int32) = (nI (if tApp c0 nl = 0 then nl + 1 else nl)) := by first | rfl | omega | (simp [tApp, Int32.not_lt, Int32.not_le, c_9_0, c_22_2]; done) | (simp [tApp, Int32.not_lt, Int32.not_le, c_9_0, c_22_2]; omega) | (revert c_9_0 c_22_2; simp +contextual [tApp, Int32.not_lt, Int32.not_le]; done) | (revert c_9_0 c_22_2; simp +contextual [tApp, Int32.not_lt, Int32.not_le]; omega)
      have ec_tx_7 : ((upd tx nl c0) : ZZ) = (if tApp c0 nl = 0 then upd tx nl c0 else tx) := by first | rfl | omega | (simp [tApp, Int32.not_lt, Int32.not_le, c_9_0, c_22_2]; done) | (simp [tApp, Int32.not_lt, Int32.not_le, c_9_0, c_22_2]; omega) | (revert c_9_0 c_22_2; simp +contextual [tApp, Int32.not_lt, Int32.not_le]; done) | (revert c_9_0 c_22_2; simp +contextual [tApp, Int32.not_lt, Int32.not_le]; omega)
      have ec_th_8 : ((nI 0) : Int32) = (nI (tApp c0 nl)) := by first | rfl | omega | (simp [tApp, Int32.not_lt, Int32.not_le, c_9_0, c_22_2]; done) | (simp [tApp, Int32.not_lt, Int32.not_le, c_9_0, c_22_2]; omega) | (revert c_9_0 c_22_2; simp +contextual [tApp, Int32.not_lt, Int32.not_le]; done) | (revert c_9_0 c_22_2; simp +contextual [tApp, Int32.not_lt, Int32.not_le]; omega)
      have ew_9 : (MW a cI z (nI ns) zh (nI (nl + 1)) (upd tx nl c0) (nI 0) pa rd nu pt wy za : va_W) = (MW a cI z (nI ns) zh (nI (if tApp c0 nl = 0 then nl + 1 else nl)) (if tApp c0 nl = 0 then upd tx nl c0 else tx) (nI (tApp c0 nl)) pa rd nu pt wy za) := mw_c rfl rfl rfl ec_le_6 ec_tx_7 ec_th_8 rfl rfl rfl rfl rfl rfl
      rw [ew_9] at hP hD
      subst hw0
      exact kq_iret hx hb hrt hlocks e_5 hP hD hS dX5_append_66
    · refine lv_iconst (v := nI 2) hx hb dX5_append_25 (by decide) ?_
      refine lv_goto (tgt := 30) hx hb dX5_append_26 (by decide) ?_
      refine va_put (D := D) (ci := 5) (v := .int (nI 2)) (ty := .int) (C := RX5) (T := TX5) (N := 12) hx hb hts iX5_append_5 tyX5 tyX5_ok nmX5 hown hK hP hD hS 0 rfl rfl 5 (by decide) (hts (.fieldLink RX5 25 "HallSightsModel" "thrown" "I") (List.mem_of_getElem? (i := 2) rfl)) (fun _ h9 => h9) rfl (by decide +kernel) rfl rfl (Nat.le_of_ble_eq_true rfl) dX5_append_30 (fun H locs hP hD hS => ?_)
      have hP : va_P D vwCl (MW a cI z (nI ns) zh (nI nl) tx (nI 2) pa rd nu pt wy za) H := hP
      have hD : va_D (kA w0) (MW a cI z (nI ns) zh (nI nl) tx (nI 2) pa rd nu pt wy za) := hD
      refine lv_aload_n hx hb dX5_append_33 rfl (lv_at hl 0 rfl) ?_
      refine va_get (D := D) (ci := 5) (v := .int (nI 2)) (C := RX5) (T := TX5) (N := 12) hx hb hts iX5_append_5 hown hK hP 0 rfl rfl 5 (by decide) (hts (.fieldLink RX5 25 "HallSightsModel" "thrown" "I") (List.mem_of_getElem? (i := 2) rfl)) (fun _ h9 => h9) rfl dX5_append_34 ?_
      refine kx_if_le (tgt := 42) hx hb (by omega) dX5_append_37 (by decide) (fun c => absurd c (by omega)) (fun c_37_10 => ?_)
      refine lv_iconst (v := nI 0) hx hb dX5_append_40 (by decide) ?_
      have e_11 : (nI 0 : Int32) = (if tApp c0 nl = 0 then nI (nl + 1) else nI 0) := by first | rfl | omega | (simp [tApp, Int32.not_lt, Int32.not_le, c_9_0, c_22_3]; done) | (simp [tApp, Int32.not_lt, Int32.not_le, c_9_0, c_22_3]; omega) | (revert c_9_0 c_22_3; simp +contextual [tApp, Int32.not_lt, Int32.not_le]; done) | (revert c_9_0 c_22_3; simp +contextual [tApp, Int32.not_lt, Int32.not_le]; omega)
      have ec_le_12 : ((nI nl) : Int32) = (nI (if tApp c0 nl = 0 then nl + 1 else nl)) := by first | rfl | omega | (simp [tApp, Int32.not_lt, Int32.not_le, c_9_0, c_22_3]; done) | (simp [tApp, Int32.not_lt, Int32.not_le, c_9_0, c_22_3]; omega) | (revert c_9_0 c_22_3; simp +contextual [tApp, Int32.not_lt, Int32.not_le]; done) | (revert c_9_0 c_22_3; simp +contextual [tApp, Int32.not_lt, Int32.not_le]; omega)
      have ec_tx_13 : (tx : ZZ) = (if tApp c0 nl = 0 then upd tx nl c0 else tx) := by first | rfl | omega | (simp [tApp, Int32.not_lt, Int32.not_le, c_9_0, c_22_3]; done) | (simp [tApp, Int32.not_lt, Int32.not_le, c_9_0, c_22_3]; omega) | (revert c_9_0 c_22_3; simp +contextual [tApp, Int32.not_lt, Int32.not_le]; done) | (revert c_9_0 c_22_3; simp +contextual [tApp, Int32.not_lt, Int32.not_le]; omega)
      have ec_th_14 : ((nI 2) : Int32) = (nI (tApp c0 nl)) := by first | rfl | omega | (simp [tApp, Int32.not_lt, Int32.not_le, c_9_0, c_22_3]; done) | (simp [tApp, Int32.not_lt, Int32.not_le, c_9_0, c_22_3]; omega) | (revert c_9_0 c_22_3; simp +contextual [tApp, Int32.not_lt, Int32.not_le]; done) | (revert c_9_0 c_22_3; simp +contextual [tApp, Int32.not_lt, Int32.not_le]; omega)
      have ew_15 : (MW a cI z (nI ns) zh (nI nl) tx (nI 2) pa rd nu pt wy za : va_W) = (MW a cI z (nI ns) zh (nI (if tApp c0 nl = 0 then nl + 1 else nl)) (if tApp c0 nl = 0 then upd tx nl c0 else tx) (nI (tApp c0 nl)) pa rd nu pt wy za) := mw_c rfl rfl rfl ec_le_12 ec_tx_13 ec_th_14 rfl rfl rfl rfl rfl rfl
      rw [ew_15] at hP hD
      subst hw0
      exact kq_iret hx hb hrt hlocks e_11 hP hD hS dX5_append_41
  · refine lv_iconst (v := nI 1) hx hb dX5_append_12 (by decide) ?_
    refine lv_goto (tgt := 30) hx hb dX5_append_13 (by decide) ?_
    refine va_put (D := D) (ci := 5) (v := .int (nI 1)) (ty := .int) (C := RX5) (T := TX5) (N := 12) hx hb hts iX5_append_5 tyX5 tyX5_ok nmX5 hown hK hP hD hS 0 rfl rfl 5 (by decide) (hts (.fieldLink RX5 25 "HallSightsModel" "thrown" "I") (List.mem_of_getElem? (i := 2) rfl)) (fun _ h9 => h9) rfl (by decide +kernel) rfl rfl (Nat.le_of_ble_eq_true rfl) dX5_append_30 (fun H locs hP hD hS => ?_)
    have hP : va_P D vwCl (MW a cI z (nI ns) zh (nI nl) tx (nI 1) pa rd nu pt wy za) H := hP
    have hD : va_D (kA w0) (MW a cI z (nI ns) zh (nI nl) tx (nI 1) pa rd nu pt wy za) := hD
    refine lv_aload_n hx hb dX5_append_33 rfl (lv_at hl 0 rfl) ?_
    refine va_get (D := D) (ci := 5) (v := .int (nI 1)) (C := RX5) (T := TX5) (N := 12) hx hb hts iX5_append_5 hown hK hP 0 rfl rfl 5 (by decide) (hts (.fieldLink RX5 25 "HallSightsModel" "thrown" "I") (List.mem_of_getElem? (i := 2) rfl)) (fun _ h9 => h9) rfl dX5_append_34 ?_
    refine kx_if_le (tgt := 42) hx hb (by omega) dX5_append_37 (by decide) (fun c => absurd c (by omega)) (fun c_37_16 => ?_)
    refine lv_iconst (v := nI 0) hx hb dX5_append_40 (by decide) ?_
    have e_17 : (nI 0 : Int32) = (if tApp c0 nl = 0 then nI (nl + 1) else nI 0) := by first | rfl | omega | (simp [tApp, Int32.not_lt, Int32.not_le, c_9_1]; done) | (simp [tApp, Int32.not_lt, Int32.not_le, c_9_1]; omega) | (revert c_9_1; simp +contextual [tApp, Int32.not_lt, Int32.not_le]; done) | (revert c_9_1; simp +contextual [tApp, Int32.not_lt, Int32.not_le]; omega)
    have ec_le_18 : ((nI nl) : Int32) = (nI (if tApp c0 nl = 0 then nl + 1 else nl)) := by first | rfl | omega | (simp [tApp, Int32.not_lt, Int32.not_le, c_9_1]; done) | (simp [tApp, Int32.not_lt, Int32.not_le, c_9_1]; omega) | (revert c_9_1; simp +contextual [tApp, Int32.not_lt, Int32.not_le]; done) | (revert c_9_1; simp +contextual [tApp, Int32.not_lt, Int32.not_le]; omega)
    have ec_tx_19 : (tx : ZZ) = (if tApp c0 nl = 0 then upd tx nl c0 else tx) := by first | rfl | omega | (simp [tApp, Int32.not_lt, Int32.not_le, c_9_1]; done) | (simp [tApp, Int32.not_lt, Int32.not_le, c_9_1]; omega) | (revert c_9_1; simp +contextual [tApp, Int32.not_lt, Int32.not_le]; done) | (revert c_9_1; simp +contextual [tApp, Int32.not_lt, Int32.not_le]; omega)
    have ec_th_20 : ((nI 1) : Int32) = (nI (tApp c0 nl)) := by first | rfl | omega | (simp [tApp, Int32.not_lt, Int32.not_le, c_9_1]; done) | (simp [tApp, Int32.not_lt, Int32.not_le, c_9_1]; omega) | (revert c_9_1; simp +contextual [tApp, Int32.not_lt, Int32.not_le]; done) | (revert c_9_1; simp +contextual [tApp, Int32.not_lt, Int32.not_le]; omega)
    have ew_21 : (MW a cI z (nI ns) zh (nI nl) tx (nI 1) pa rd nu pt wy za : va_W) = (MW a cI z (nI ns) zh (nI (if tApp c0 nl = 0 then nl + 1 else nl)) (if tApp c0 nl = 0 then upd tx nl c0 else tx) (nI (tApp c0 nl)) pa rd nu pt wy za) := mw_c rfl rfl rfl ec_le_18 ec_tx_19 ec_th_20 rfl rfl rfl rfl rfl rfl
    rw [ew_21] at hP hD
    subst hw0
    exact kq_iret hx hb hrt hlocks e_17 hP hD hS dX5_append_41
set_option maxRecDepth 20000 in
theorem iX5_clearBuffer_5 : ∀ w ∈ wsX50, w ∈ wsX5_clearBuffer := by decide +kernel
set_option maxHeartbeats 4000000 in
set_option maxRecDepth 100000 in
theorem c_X5_clearBuffer (l : Launch) (D : va_G) (cI cC cH cL : ClassId) (a : Nat → Nat) (z zh tx pa wy : ZZ) (ns nl : Nat) (th rd nu pt : Int32) (za : Int64)   : Met l yX5_clearBuffer wsX5_clearBuffer ({ frames := 0, cells := 0, slots := 0, locals := 0 }) (kw [.ref (a 0)] D (MW a cI z (nI ns) zh (nI nl) tx th pa rd nu pt wy za) (kT cI cC cH cL)) (kq D (MW a cI z (nI ns) zh (nI nl) tx th pa rd nu pt wy za) (MW a cI z (nI ns) zh (nI 0) tx (nI 0) pa rd nu pt wy za) (.returned (some (.int (nI nl))))) 0 0 (kA (MW a cI z (nI ns) zh (nI nl) tx th pa rd nu pt wy za)) := by
  refine Met.ofW (cc := cX5_clearBuffer) (maxL := 2) (ret := (some .int)) (by decide) rfl ?_
  intro p e s m args below meth c s₁ B hml hv
  obtain ⟨rfl, hP, hK, hD0⟩ := hv
  have hx := B.exec
  have hb := B.bytes
  have hrt := B.returns
  have hts := atoms_spec (ws := wsX5_clearBuffer) B.pre
  have hown : s.vm.findClass RX5 = some m.cls := findClass_of_methodNamed B.named
  have hlocks := B.notSynchronized
  have hl := lv_entry ([.ref (a 0)]) (n := 2) (Nat.le_of_ble_eq_true rfl)
  rw [lg_entry_eq]
  generalize (lg_sl ([.ref (a 0)]) ++ List.replicate (2 - (lg_sl ([.ref (a 0)])).length) Slot.unset).toArray = ls at hl ⊢
  have hl : lv_has ls 2 [(0, .ref (a 0))] := hl
  have hD := kA_self hD0
  obtain ⟨w0, hw0⟩ : ∃ w : va_W, w = MW a cI z (nI ns) zh (nI nl) tx th pa rd nu pt wy za := ⟨_, rfl⟩
  have hD : va_D (kA w0) (MW a cI z (nI ns) zh (nI nl) tx th pa rd nu pt wy za) := by rw [hw0]; exact hD
  have hS : va_S (kA w0) s.heap s.heap [] := va_S.rf
  rw [show kA (MW a cI z (nI ns) zh (nI nl) tx th pa rd nu pt wy za) = kA w0 from by rw [hw0], show kq D (MW a cI z (nI ns) zh (nI nl) tx th pa rd nu pt wy za) = kq D w0 from by rw [hw0]]
  have hP : va_P D vwCl (MW a cI z (nI ns) zh (nI nl) tx th pa rd nu pt wy za) s.heap := hP
  refine lv_aload_n hx hb dX5_clearBuffer_0 rfl (lv_at hl 0 rfl) ?_
  refine lv_iconst (v := nI 0) hx hb dX5_clearBuffer_1 (by decide) ?_
  refine va_put (D := D) (ci := 5) (v := .int (nI 0)) (ty := .int) (C := RX5) (T := TX5) (N := 12) hx hb hts iX5_clearBuffer_5 tyX5 tyX5_ok nmX5 hown hK hP hD hS 0 rfl rfl 5 (by decide) (hts (.fieldLink RX5 25 "HallSightsModel" "thrown" "I") (List.mem_of_getElem? (i := 1) rfl)) (fun _ h9 => h9) rfl (by decide +kernel) rfl rfl (Nat.le_of_ble_eq_true rfl) dX5_clearBuffer_2 (fun H locs hP hD hS => ?_)
  have hP : va_P D vwCl (MW a cI z (nI ns) zh (nI nl) tx (nI 0) pa rd nu pt wy za) H := hP
  have hD : va_D (kA w0) (MW a cI z (nI ns) zh (nI nl) tx (nI 0) pa rd nu pt wy za) := hD
  refine lv_aload_n hx hb dX5_clearBuffer_5 rfl (lv_at hl 0 rfl) ?_
  refine va_get (D := D) (ci := 5) (v := .int (nI nl)) (C := RX5) (T := TX5) (N := 12) hx hb hts iX5_clearBuffer_5 hown hK hP 0 rfl rfl 3 (by decide) (hts (.fieldLink RX5 131 "HallSightsModel" "length" "I") (List.mem_of_getElem? (i := 2) rfl)) (fun _ h9 => h9) rfl dX5_clearBuffer_6 ?_
  refine lv_istore_n (lv' := [(1, .int (nI nl)), (0, .ref (a 0))]) hx hb dX5_clearBuffer_9 rfl hl (by decide) rfl (fun ls hl => ?_)
  refine lv_aload_n hx hb dX5_clearBuffer_10 rfl (lv_at hl 1 rfl) ?_
  refine lv_iconst (v := nI 0) hx hb dX5_clearBuffer_11 (by decide) ?_
  refine va_put (D := D) (ci := 5) (v := .int (nI 0)) (ty := .int) (C := RX5) (T := TX5) (N := 12) hx hb hts iX5_clearBuffer_5 tyX5 tyX5_ok nmX5 hown hK hP hD hS 0 rfl rfl 3 (by decide) (hts (.fieldLink RX5 131 "HallSightsModel" "length" "I") (List.mem_of_getElem? (i := 2) rfl)) (fun _ h9 => h9) rfl (by decide +kernel) rfl rfl (Nat.le_of_ble_eq_true rfl) dX5_clearBuffer_12 (fun H locs hP hD hS => ?_)
  have hP : va_P D vwCl (MW a cI z (nI ns) zh (nI 0) tx (nI 0) pa rd nu pt wy za) H := hP
  have hD : va_D (kA w0) (MW a cI z (nI ns) zh (nI 0) tx (nI 0) pa rd nu pt wy za) := hD
  refine lv_iload_n hx hb dX5_clearBuffer_15 rfl (lv_at hl 0 rfl) ?_
  subst hw0
  exact kq_iret hx hb hrt hlocks rfl hP hD hS dX5_clearBuffer_16
set_option maxRecDepth 20000 in
theorem iX5_undo_5 : ∀ w ∈ wsX50, w ∈ wsX5_undo := by decide +kernel
set_option maxHeartbeats 4000000 in
set_option maxRecDepth 100000 in
theorem c_X5_undo (l : Launch) (D : va_G) (cI cC cH cL : ClassId) (a : Nat → Nat) (z zh tx pa wy : ZZ) (ns nl : Nat) (th rd nu pt : Int32) (za : Int64)  (hn : ns ≤ 6) : Met l yX5_undo wsX5_undo ({ frames := 0, cells := 0, slots := 0, locals := 0 }) (kw [.ref (a 0)] D (MW a cI z (nI ns) zh (nI nl) tx th pa rd nu pt wy za) (kT cI cC cH cL)) (kq D (MW a cI z (nI ns) zh (nI nl) tx th pa rd nu pt wy za) (MW a cI (if ns = 0 then z else undS z zh (ns - 1) 57) (nI (ns - 1)) zh (nI nl) tx (nI (if ns = 0 then 1 else 0)) pa rd nu pt wy za) (.returned (some (.int (nI (ns - 1)))))) 0 0 (kA (MW a cI z (nI ns) zh (nI nl) tx th pa rd nu pt wy za)) := by
  refine Met.ofW (cc := cX5_undo) (maxL := 2) (ret := (some .int)) (by decide) rfl ?_
  intro p e s m args below meth c s₁ B hml hv
  obtain ⟨rfl, hP, hK, hD0⟩ := hv
  have hx := B.exec
  have hb := B.bytes
  have hrt := B.returns
  have hts := atoms_spec (ws := wsX5_undo) B.pre
  have hown : s.vm.findClass RX5 = some m.cls := findClass_of_methodNamed B.named
  have hlocks := B.notSynchronized
  have hl := lv_entry ([.ref (a 0)]) (n := 2) (Nat.le_of_ble_eq_true rfl)
  rw [lg_entry_eq]
  generalize (lg_sl ([.ref (a 0)]) ++ List.replicate (2 - (lg_sl ([.ref (a 0)])).length) Slot.unset).toArray = ls at hl ⊢
  have hl : lv_has ls 2 [(0, .ref (a 0))] := hl
  have hD := kA_self hD0
  obtain ⟨w0, hw0⟩ : ∃ w : va_W, w = MW a cI z (nI ns) zh (nI nl) tx th pa rd nu pt wy za := ⟨_, rfl⟩
  have hD : va_D (kA w0) (MW a cI z (nI ns) zh (nI nl) tx th pa rd nu pt wy za) := by rw [hw0]; exact hD
  have hS : va_S (kA w0) s.heap s.heap [] := va_S.rf
  rw [show kA (MW a cI z (nI ns) zh (nI nl) tx th pa rd nu pt wy za) = kA w0 from by rw [hw0], show kq D (MW a cI z (nI ns) zh (nI nl) tx th pa rd nu pt wy za) = kq D w0 from by rw [hw0]]
  have hP : va_P D vwCl (MW a cI z (nI ns) zh (nI nl) tx th pa rd nu pt wy za) s.heap := hP
  refine lv_aload_n hx hb dX5_undo_0 rfl (lv_at hl 0 rfl) ?_
  refine lv_aload_n hx hb dX5_undo_1 rfl (lv_at hl 0 rfl) ?_
  refine va_get (D := D) (ci := 5) (v := .int (nI ns)) (C := RX5) (T := TX5) (N := 12) hx hb hts iX5_undo_5 hown hK hP 0 rfl rfl 1 (by decide) (hts (.fieldLink RX5 29 "HallSightsModel" "states" "I") (List.mem_of_getElem? (i := 1) rfl)) (fun _ h9 => h9) rfl dX5_undo_2 ?_
  refine kx_if_le (tgt := 12) hx hb (by omega) dX5_undo_5 (by decide) (fun c_5_0 => ?_) (fun c_5_1 => ?_)
  · refine lv_iconst (v := nI 1) hx hb dX5_undo_12 (by decide) ?_
    refine va_put (D := D) (ci := 5) (v := .int (nI 1)) (ty := .int) (C := RX5) (T := TX5) (N := 12) hx hb hts iX5_undo_5 tyX5 tyX5_ok nmX5 hown hK hP hD hS 0 rfl rfl 5 (by decide) (hts (.fieldLink RX5 25 "HallSightsModel" "thrown" "I") (List.mem_of_getElem? (i := 2) rfl)) (fun _ h9 => h9) rfl (by decide +kernel) rfl rfl (Nat.le_of_ble_eq_true rfl) dX5_undo_13 (fun H locs hP hD hS => ?_)
    have hP : va_P D vwCl (MW a cI z (nI ns) zh (nI nl) tx (nI 1) pa rd nu pt wy za) H := hP
    have hD : va_D (kA w0) (MW a cI z (nI ns) zh (nI nl) tx (nI 1) pa rd nu pt wy za) := hD
    refine lv_aload_n hx hb dX5_undo_16 rfl (lv_at hl 0 rfl) ?_
    refine va_get (D := D) (ci := 5) (v := .int (nI 1)) (C := RX5) (T := TX5) (N := 12) hx hb hts iX5_undo_5 hown hK hP 0 rfl rfl 5 (by decide) (hts (.fieldLink RX5 25 "HallSightsModel" "thrown" "I") (List.mem_of_getElem? (i := 2) rfl)) (fun _ h9 => h9) rfl dX5_undo_17 ?_
    refine kx_if_le (tgt := 25) hx hb (by omega) dX5_undo_20 (by decide) (fun c => absurd c (by omega)) (fun c_20_2 => ?_)
    refine lv_iconst (v := nI 0) hx hb dX5_undo_23 (by decide) ?_
    have e_3 : (0 : Nat) = (ns - 1) := by first | rfl | omega | (simp [Int32.not_lt, Int32.not_le, c_5_0]; done) | (simp [Int32.not_lt, Int32.not_le, c_5_0]; omega) | (revert c_5_0; simp +contextual [Int32.not_lt, Int32.not_le]; done) | (revert c_5_0; simp +contextual [Int32.not_lt, Int32.not_le]; omega)
    have ec_z_4 : (z : ZZ) = (if ns = 0 then z else undS z zh (ns - 1) 57) := by first | rfl | omega | (simp [Int32.not_lt, Int32.not_le, c_5_0]; done) | (simp [Int32.not_lt, Int32.not_le, c_5_0]; omega) | (revert c_5_0; simp +contextual [Int32.not_lt, Int32.not_le]; done) | (revert c_5_0; simp +contextual [Int32.not_lt, Int32.not_le]; omega)
    have ec_st_5 : ((nI ns) : Int32) = (nI (ns - 1)) := by first | rfl | omega | (simp [Int32.not_lt, Int32.not_le, c_5_0]; done) | (simp [Int32.not_lt, Int32.not_le, c_5_0]; omega) | (revert c_5_0; simp +contextual [Int32.not_lt, Int32.not_le]; done) | (revert c_5_0; simp +contextual [Int32.not_lt, Int32.not_le]; omega)
    have ec_th_6 : ((nI 1) : Int32) = (nI (if ns = 0 then 1 else 0)) := by first | rfl | omega | (simp [Int32.not_lt, Int32.not_le, c_5_0]; done) | (simp [Int32.not_lt, Int32.not_le, c_5_0]; omega) | (revert c_5_0; simp +contextual [Int32.not_lt, Int32.not_le]; done) | (revert c_5_0; simp +contextual [Int32.not_lt, Int32.not_le]; omega)
    have ew_7 : (MW a cI z (nI ns) zh (nI nl) tx (nI 1) pa rd nu pt wy za : va_W) = (MW a cI (if ns = 0 then z else undS z zh (ns - 1) 57) (nI (ns - 1)) zh (nI nl) tx (nI (if ns = 0 then 1 else 0)) pa rd nu pt wy za) := mw_c ec_z_4 ec_st_5 rfl rfl rfl ec_th_6 rfl rfl rfl rfl rfl rfl
    rw [ew_7] at hP hD
    subst hw0
    exact kq_iret hx hb hrt hlocks (congrArg nI e_3) hP hD hS dX5_undo_24
  · refine lv_iconst (v := nI 0) hx hb dX5_undo_8 (by decide) ?_
    refine lv_goto (tgt := 13) hx hb dX5_undo_9 (by decide) ?_
    refine va_put (D := D) (ci := 5) (v := .int (nI 0)) (ty := .int) (C := RX5) (T := TX5) (N := 12) hx hb hts iX5_undo_5 tyX5 tyX5_ok nmX5 hown hK hP hD hS 0 rfl rfl 5 (by decide) (hts (.fieldLink RX5 25 "HallSightsModel" "thrown" "I") (List.mem_of_getElem? (i := 2) rfl)) (fun _ h9 => h9) rfl (by decide +kernel) rfl rfl (Nat.le_of_ble_eq_true rfl) dX5_undo_13 (fun H locs hP hD hS => ?_)
    have hP : va_P D vwCl (MW a cI z (nI ns) zh (nI nl) tx (nI 0) pa rd nu pt wy za) H := hP
    have hD : va_D (kA w0) (MW a cI z (nI ns) zh (nI nl) tx (nI 0) pa rd nu pt wy za) := hD
    refine lv_aload_n hx hb dX5_undo_16 rfl (lv_at hl 0 rfl) ?_
    refine va_get (D := D) (ci := 5) (v := .int (nI 0)) (C := RX5) (T := TX5) (N := 12) hx hb hts iX5_undo_5 hown hK hP 0 rfl rfl 5 (by decide) (hts (.fieldLink RX5 25 "HallSightsModel" "thrown" "I") (List.mem_of_getElem? (i := 2) rfl)) (fun _ h9 => h9) rfl dX5_undo_17 ?_
    refine kx_if_le (tgt := 25) hx hb (by omega) dX5_undo_20 (by decide) (fun c_20_8 => ?_) (fun c => absurd c (by omega))
    refine lv_aload_n hx hb dX5_undo_25 rfl (lv_at hl 0 rfl) ?_
    refine lv_dup hx hb dX5_undo_26 rfl ?_
    refine va_get (D := D) (ci := 5) (v := .int (nI ns)) (C := RX5) (T := TX5) (N := 12) hx hb hts iX5_undo_5 hown hK hP 0 rfl rfl 1 (by decide) (hts (.fieldLink RX5 29 "HallSightsModel" "states" "I") (List.mem_of_getElem? (i := 1) rfl)) (fun _ h9 => h9) rfl dX5_undo_27 ?_
    refine lv_iconst (v := nI 1) hx hb dX5_undo_30 (by decide) ?_
    refine kx_isub hx hb (by omega) dX5_undo_31 ?_
    refine va_put (D := D) (ci := 5) (v := .int (nI (ns - 1))) (ty := .int) (C := RX5) (T := TX5) (N := 12) hx hb hts iX5_undo_5 tyX5 tyX5_ok nmX5 hown hK hP hD hS 0 rfl rfl 1 (by decide) (hts (.fieldLink RX5 29 "HallSightsModel" "states" "I") (List.mem_of_getElem? (i := 1) rfl)) (fun _ h9 => h9) rfl (by decide +kernel) rfl rfl (Nat.le_of_ble_eq_true rfl) dX5_undo_32 (fun H locs hP hD hS => ?_)
    have hP : va_P D vwCl (MW a cI z (nI (ns - 1)) zh (nI nl) tx (nI 0) pa rd nu pt wy za) H := hP
    have hD : va_D (kA w0) (MW a cI z (nI (ns - 1)) zh (nI nl) tx (nI 0) pa rd nu pt wy za) := hD
    refine lv_iconst (v := nI 0) hx hb dX5_undo_35 (by decide) ?_
    refine lv_istore_n (lv' := [(1, .int (nI 0)), (0, .ref (a 0))]) hx hb dX5_undo_36 rfl hl (by decide) rfl (fun ls hl => ?_)
    have ec_z_9 : (z : ZZ) = (undS z zh (ns - 1) 0) := by funext jj; simp only [upd, undS]; (repeat' split) <;> first | rfl | omega | (exfalso; omega) | (congr 1; omega)
    have ew_10 : (MW a cI z (nI (ns - 1)) zh (nI nl) tx (nI 0) pa rd nu pt wy za : va_W) = (MW a cI (undS z zh (ns - 1) 0) (nI (ns - 1)) zh (nI nl) tx (nI 0) pa rd nu pt wy za) := mw_c ec_z_9 rfl rfl rfl rfl rfl rfl rfl rfl rfl rfl rfl
    rw [ew_10] at hP hD
    refine kx_upW (fun k H locs ls => (va_P D vwCl (MW a cI (undS z zh (ns - 1) k) (nI (ns - 1)) zh (nI nl) tx (nI 0) pa rd nu pt wy za) H ∧ va_D (kA w0) (MW a cI (undS z zh (ns - 1) k) (nI (ns - 1)) zh (nI nl) tx (nI 0) pa rd nu pt wy za) ∧ va_S (kA w0) s.heap H locs) ∧ lv_has ls 2 [(0, .ref (a 0)), (1, .int (nI k))]) (0) (57) (by omega) _ _ ls ⟨⟨hP, hD, hS⟩, (lv_sub hl [1, 0] rfl)⟩ ?_
    clear hP hD hS
    intro ik H locs ls hikl hikh hp ih37
    obtain ⟨⟨hP, hD, hS⟩, hp⟩ := hp
    have hl := hp
    refine lv_iload_n hx hb dX5_undo_37 rfl (lv_at hl 1 rfl) ?_
    refine lv_bipush (v := nI 57) hx hb dX5_undo_38 (by decide) ?_
    refine kx_icmp_ge (tgt := 69) hx hb (by omega) (by omega) dX5_undo_40 (by decide) (fun c_40_11 => ?_) (fun c_40_12 => ?_)
    · have hq13 : 57 = ik := by omega
      subst hq13
      refine lv_aload_n hx hb dX5_undo_69 rfl (lv_at hl 0 rfl) ?_
      refine va_get (D := D) (ci := 5) (v := .int (nI (ns - 1))) (C := RX5) (T := TX5) (N := 12) hx hb hts iX5_undo_5 hown hK hP 0 rfl rfl 1 (by decide) (hts (.fieldLink RX5 29 "HallSightsModel" "states" "I") (List.mem_of_getElem? (i := 1) rfl)) (fun _ h9 => h9) rfl dX5_undo_70 ?_
      have e_14 : ((ns - 1) : Nat) = (ns - 1) := by first | rfl | omega | (simp [Int32.not_lt, Int32.not_le, c_5_1, Nat.ne_of_gt c_5_1, c_40_11, Nat.not_lt.mpr c_40_11]; done) | (simp [Int32.not_lt, Int32.not_le, c_5_1, Nat.ne_of_gt c_5_1, c_40_11, Nat.not_lt.mpr c_40_11]; omega) | (revert c_5_1 c_40_11; simp +contextual [Int32.not_lt, Int32.not_le]; done) | (revert c_5_1 c_40_11; simp +contextual [Int32.not_lt, Int32.not_le]; omega)
      have ec_z_15 : ((undS z zh (ns - 1) 57) : ZZ) = (if ns = 0 then z else undS z zh (ns - 1) 57) := by first | rfl | omega | (simp [Int32.not_lt, Int32.not_le, c_5_1, Nat.ne_of_gt c_5_1, c_40_11, Nat.not_lt.mpr c_40_11]; done) | (simp [Int32.not_lt, Int32.not_le, c_5_1, Nat.ne_of_gt c_5_1, c_40_11, Nat.not_lt.mpr c_40_11]; omega) | (revert c_5_1 c_40_11; simp +contextual [Int32.not_lt, Int32.not_le]; done) | (revert c_5_1 c_40_11; simp +contextual [Int32.not_lt, Int32.not_le]; omega)
      have ec_th_16 : ((nI 0) : Int32) = (nI (if ns = 0 then 1 else 0)) := by first | rfl | omega | (simp [Int32.not_lt, Int32.not_le, c_5_1, Nat.ne_of_gt c_5_1, c_40_11, Nat.not_lt.mpr c_40_11]; done) | (simp [Int32.not_lt, Int32.not_le, c_5_1, Nat.ne_of_gt c_5_1, c_40_11, Nat.not_lt.mpr c_40_11]; omega) | (revert c_5_1 c_40_11; simp +contextual [Int32.not_lt, Int32.not_le]; done) | (revert c_5_1 c_40_11; simp +contextual [Int32.not_lt, Int32.not_le]; omega)
      have ew_17 : (MW a cI (undS z zh (ns - 1) 57) (nI (ns - 1)) zh (nI nl) tx (nI 0) pa rd nu pt wy za : va_W) = (MW a cI (if ns = 0 then z else undS z zh (ns - 1) 57) (nI (ns - 1)) zh (nI nl) tx (nI (if ns = 0 then 1 else 0)) pa rd nu pt wy za) := mw_c ec_z_15 rfl rfl rfl rfl ec_th_16 rfl rfl rfl rfl rfl rfl
      rw [ew_17] at hP hD
      subst hw0
      exact kq_iret hx hb hrt hlocks (congrArg nI e_14) hP hD hS dX5_undo_73
    · refine lv_aload_n hx hb dX5_undo_43 rfl (lv_at hl 0 rfl) ?_
      refine va_get (D := D) (ci := 5) (v := .ref (a 1)) (C := RX5) (T := TX5) (N := 12) hx hb hts iX5_undo_5 hown hK hP 0 rfl rfl 0 (by decide) (hts (.fieldLink RX5 7 "HallSightsModel" "z" "[I") (List.mem_of_getElem? (i := 3) rfl)) (fun _ h9 => h9) rfl dX5_undo_44 ?_
      refine lv_iload_n hx hb dX5_undo_47 rfl (lv_at hl 1 rfl) ?_
      refine lv_aload_n hx hb dX5_undo_48 rfl (lv_at hl 0 rfl) ?_
      refine va_get (D := D) (ci := 5) (v := .ref (a 2)) (C := RX5) (T := TX5) (N := 12) hx hb hts iX5_undo_5 hown hK hP 0 rfl rfl 2 (by decide) (hts (.fieldLink RX5 13 "HallSightsModel" "history" "[I") (List.mem_of_getElem? (i := 4) rfl)) (fun _ h9 => h9) rfl dX5_undo_49 ?_
      refine lv_bipush (v := nI 57) hx hb dX5_undo_52 (by decide) ?_
      refine lv_aload_n hx hb dX5_undo_54 rfl (lv_at hl 0 rfl) ?_
      refine va_get (D := D) (ci := 5) (v := .int (nI (ns - 1))) (C := RX5) (T := TX5) (N := 12) hx hb hts iX5_undo_5 hown hK hP 0 rfl rfl 1 (by decide) (hts (.fieldLink RX5 29 "HallSightsModel" "states" "I") (List.mem_of_getElem? (i := 1) rfl)) (fun _ h9 => h9) rfl dX5_undo_55 ?_
      refine kx_imul hx hb dX5_undo_58 ?_
      refine lv_iload_n hx hb dX5_undo_59 rfl (lv_at hl 1 rfl) ?_
      refine kx_iadd hx hb dX5_undo_60 ?_
      refine kx_iald hx hb hK hP 2 0 rfl rfl (by omega) (by decide) dX5_undo_61 ?_
      refine kx_iast hx hb hK hP hD hS 1 0 rfl rfl (by omega) (by decide) dX5_undo_62 (fun H locs hP hD hS => ?_)
      have hP : va_P D vwCl (MW a cI (upd (undS z zh (ns - 1) ik) ik (zh ((57 * (ns - 1)) + ik))) (nI (ns - 1)) zh (nI nl) tx (nI 0) pa rd nu pt wy za) H := hP
      have hD : va_D (kA w0) (MW a cI (upd (undS z zh (ns - 1) ik) ik (zh ((57 * (ns - 1)) + ik))) (nI (ns - 1)) zh (nI nl) tx (nI 0) pa rd nu pt wy za) := hD
      refine lv_iinc (v := nI (ik + 1)) (lv' := [(1, .int (nI (ik + 1))), (0, .ref (a 0))]) hx hb dX5_undo_63 hl (k := 1) rfl (kx_inc 1) (by decide) rfl (fun ls hl => ?_)
      refine lv_goto (tgt := 37) hx hb dX5_undo_66 (by decide) ?_
      have e37_18 : (ik + 1 : Nat) = ((ik + 1)) := by first | rfl | omega | (simp [Int32.not_lt, Int32.not_le, c_5_1, Nat.ne_of_gt c_5_1, c_40_12, Nat.not_le.mpr c_40_12]; done) | (simp [Int32.not_lt, Int32.not_le, c_5_1, Nat.ne_of_gt c_5_1, c_40_12, Nat.not_le.mpr c_40_12]; omega) | (revert c_5_1 c_40_12; simp +contextual [Int32.not_lt, Int32.not_le]; done) | (revert c_5_1 c_40_12; simp +contextual [Int32.not_lt, Int32.not_le]; omega)
      have hl37_19 : lv_has ls 2 [(0, .ref (a 0)), (1, .int (nI (ik + 1)))] := lv_eqv (l1 := [(0, .ref (a 0)), (1, .int (nI (ik + 1)))]) (lv_sub hl [1, 0] rfl) (lv_ce rfl (lv_ce (congrArg (fun x => Value.int (nI x)) e37_18) rfl))
      have ec_z_20 : ((upd (undS z zh (ns - 1) ik) ik (zh ((57 * (ns - 1)) + ik))) : ZZ) = (undS z zh (ns - 1) (ik + 1)) := by funext jj; simp only [upd, undS]; (repeat' split) <;> first | rfl | omega | (exfalso; omega) | (congr 1; omega)
      have ew_21 : (MW a cI (upd (undS z zh (ns - 1) ik) ik (zh ((57 * (ns - 1)) + ik))) (nI (ns - 1)) zh (nI nl) tx (nI 0) pa rd nu pt wy za : va_W) = (MW a cI (undS z zh (ns - 1) (ik + 1)) (nI (ns - 1)) zh (nI nl) tx (nI 0) pa rd nu pt wy za) := mw_c ec_z_20 rfl rfl rfl rfl rfl rfl rfl rfl rfl rfl rfl
      rw [ew_21] at hP hD
      exact ih37 _ _ _ (by omega) ⟨⟨hP, hD, hS⟩, hl37_19⟩
set_option maxRecDepth 20000 in
theorem iX5_row_5 : ∀ w ∈ wsX50, w ∈ wsX5_row := by decide +kernel
set_option maxHeartbeats 4000000 in
set_option maxRecDepth 100000 in
theorem c_X5_row (l : Launch) (D : va_G) (cI cC cH cL : ClassId) (a : Nat → Nat) (z zh tx pa wy : ZZ) (ns nl : Nat) (th rd nu pt : Int32) (za : Int64) (ro : Int32) (wh : Int32) (hw : WF z) : Met l yX5_row wsX5_row ({ frames := 8, cells := 0, slots := 0, locals := 186 }) (kw [.ref (a 0), .int ro, .int wh] D (MW a cI z (nI ns) zh (nI nl) tx th pa rd nu pt wy za) (kT cI cC cH cL)) (kq D (MW a cI z (nI ns) zh (nI nl) tx th pa rd nu pt wy za) (MW a cI z (nI ns) zh (nI nl) tx (nI (tRowW z ro wh)) pa rd nu pt wy za) (.returned (some (.int (if tRowW z ro wh = 0 then rowNowI z (cl ro) (cl wh) else nI 0))))) 0 0 (kA (MW a cI z (nI ns) zh (nI nl) tx th pa rd nu pt wy za)) := by
  refine Met.ofW (cc := cX5_row) (maxL := 3) (ret := (some .int)) (by decide) rfl ?_
  intro p e s m args below meth c s₁ B hml hv
  obtain ⟨rfl, hP, hK, hD0⟩ := hv
  have hx := B.exec
  have hb := B.bytes
  have hrt := B.returns
  have hts := atoms_spec (ws := wsX5_row) B.pre
  have hown : s.vm.findClass RX5 = some m.cls := findClass_of_methodNamed B.named
  have hlocks := B.notSynchronized
  have hl := lv_entry ([.ref (a 0), .int ro, .int wh]) (n := 3) (Nat.le_of_ble_eq_true rfl)
  rw [lg_entry_eq]
  generalize (lg_sl ([.ref (a 0), .int ro, .int wh]) ++ List.replicate (3 - (lg_sl ([.ref (a 0), .int ro, .int wh])).length) Slot.unset).toArray = ls at hl ⊢
  have hl : lv_has ls 3 [(0, .ref (a 0)), (1, .int ro), (2, .int wh)] := hl
  have hD := kA_self hD0
  obtain ⟨w0, hw0⟩ : ∃ w : va_W, w = MW a cI z (nI ns) zh (nI nl) tx th pa rd nu pt wy za := ⟨_, rfl⟩
  have hD : va_D (kA w0) (MW a cI z (nI ns) zh (nI nl) tx th pa rd nu pt wy za) := by rw [hw0]; exact hD
  have hS : va_S (kA w0) s.heap s.heap [] := va_S.rf
  rw [show kA (MW a cI z (nI ns) zh (nI nl) tx th pa rd nu pt wy za) = kA w0 from by rw [hw0], show kq D (MW a cI z (nI ns) zh (nI nl) tx th pa rd nu pt wy za) = kq D w0 from by rw [hw0]]
  have hP : va_P D vwCl (MW a cI z (nI ns) zh (nI nl) tx th pa rd nu pt wy za) s.heap := hP
  have hR10 := wf_R10 hw
  have hC4 := wf_C4 hw
  refine lv_aload_n hx hb dX5_row_0 rfl (lv_at hl 0 rfl) ?_
  refine lv_aload_n hx hb dX5_row_1 rfl (lv_at hl 0 rfl) ?_
  refine lv_iload_n hx hb dX5_row_2 rfl (lv_at hl 1 rfl) ?_
  refine kr_V (As := [.int ro]) (rest := [.ref (a 0)]) (C := RX5) (own := RX5) ⟨hx, hb, hml, hown, hts⟩ (c_X5_isRow l D cI cC cH cL a z zh tx pa wy (nI ns) (nI nl) th rd nu pt za ro (by first | assumption | omega)) (cwV 1 hts gX5_row_X5_isRow rfl rfl rfl k_X5_isRow ⟨Nat.le_of_ble_eq_true rfl, Nat.le_of_ble_eq_true rfl⟩) hP hK (va_recv (q := (RX5, TX5, 12)) hK hP (ci := 5) (q0 := 0) rfl rfl) rfl hl.1 rfl (Nat.le_of_ble_eq_true rfl) dX5_row_3 ⟨Nat.le_of_ble_eq_true rfl, Nat.le_of_ble_eq_true rfl⟩ ?_
  refine kx_if_neb (tgt := 13) hx hb dX5_row_6 (by decide) (fun c_6_0 => ?_) (fun c_6_1 => ?_)
  · obtain ⟨r0, hr0, rfl⟩ := isRow_out hw c_6_0
    have hc_r0 : cl (nI r0) = r0 := cl_nI (show r0 < 2 ^ 31 by omega)
    refine lv_iload_n hx hb dX5_row_13 rfl (lv_at hl 2 rfl) ?_
    refine lv_iconst (v := nI 0) hx hb dX5_row_14 (by decide) ?_
    refine lv_iconst (v := nI 5) hx hb dX5_row_15 (by decide) ?_
    refine kr_S (As := [.int wh, .int (nI 0), .int (nI 5)]) (rest := [.ref (a 0)]) (own := RX5) ⟨hx, hb, hml, hown, hts⟩ (c_X5_within l D cI cC cH cL  wh (nI 0) (nI 5) ) (va_cwS 3 hts gX5_row_X5_within rfl rfl rfl k_X5_withinS ⟨Nat.le_of_ble_eq_true rfl, Nat.le_of_ble_eq_true rfl⟩) (hP.sub (ws' := []) [] rfl) hK rfl hl.1 rfl (Nat.le_of_ble_eq_true rfl) dX5_row_16 ⟨Nat.le_of_ble_eq_true rfl, Nat.le_of_ble_eq_true rfl⟩ ?_
    refine kx_if_eqb (tgt := 26) hx hb dX5_row_19 (by decide) (fun c_19_2 => ?_) (fun c_19_3 => ?_)
    · refine lv_iconst (v := nI 2) hx hb dX5_row_26 (by decide) ?_
      refine va_put (D := D) (ci := 5) (v := .int (nI 2)) (ty := .int) (C := RX5) (T := TX5) (N := 12) hx hb hts iX5_row_5 tyX5 tyX5_ok nmX5 hown hK hP hD hS 0 rfl rfl 5 (by decide) (hts (.fieldLink RX5 25 "HallSightsModel" "thrown" "I") (List.mem_of_getElem? (i := 1) rfl)) (fun _ h9 => h9) rfl (by decide +kernel) rfl rfl (Nat.le_of_ble_eq_true rfl) dX5_row_27 (fun H locs hP hD hS => ?_)
      have hP : va_P D vwCl (MW a cI z (nI ns) zh (nI nl) tx (nI 2) pa rd nu pt wy za) H := hP
      have hD : va_D (kA w0) (MW a cI z (nI ns) zh (nI nl) tx (nI 2) pa rd nu pt wy za) := hD
      refine lv_aload_n hx hb dX5_row_30 rfl (lv_at hl 0 rfl) ?_
      refine va_get (D := D) (ci := 5) (v := .int (nI 2)) (C := RX5) (T := TX5) (N := 12) hx hb hts iX5_row_5 hown hK hP 0 rfl rfl 5 (by decide) (hts (.fieldLink RX5 25 "HallSightsModel" "thrown" "I") (List.mem_of_getElem? (i := 1) rfl)) (fun _ h9 => h9) rfl dX5_row_31 ?_
      refine kx_if_le (tgt := 41) hx hb (by omega) dX5_row_34 (by decide) (fun c => absurd c (by omega)) (fun c_34_4 => ?_)
      refine lv_iconst (v := nI 0) hx hb dX5_row_37 (by decide) ?_
      refine lv_goto (tgt := 47) hx hb dX5_row_38 (by decide) ?_
      have e_5 : (nI 0 : Int32) = (if tRowW z (nI r0) wh = 0 then rowNowI z (cl (nI r0)) (cl wh) else nI 0) := by first | rfl | omega | (simp [tRowW, Int32.not_lt, Int32.not_le, c_6_0, hc_r0, c_19_2]; done) | (simp [tRowW, Int32.not_lt, Int32.not_le, c_6_0, hc_r0, c_19_2]; omega) | (revert c_6_0 hc_r0 c_19_2; simp +contextual [tRowW, Int32.not_lt, Int32.not_le]; done) | (revert c_6_0 hc_r0 c_19_2; simp +contextual [tRowW, Int32.not_lt, Int32.not_le]; omega)
      have ec_th_6 : ((nI 2) : Int32) = (nI (tRowW z (nI r0) wh)) := by first | rfl | omega | (simp [tRowW, Int32.not_lt, Int32.not_le, c_6_0, hc_r0, c_19_2]; done) | (simp [tRowW, Int32.not_lt, Int32.not_le, c_6_0, hc_r0, c_19_2]; omega) | (revert c_6_0 hc_r0 c_19_2; simp +contextual [tRowW, Int32.not_lt, Int32.not_le]; done) | (revert c_6_0 hc_r0 c_19_2; simp +contextual [tRowW, Int32.not_lt, Int32.not_le]; omega)
      have ew_7 : (MW a cI z (nI ns) zh (nI nl) tx (nI 2) pa rd nu pt wy za : va_W) = (MW a cI z (nI ns) zh (nI nl) tx (nI (tRowW z (nI r0) wh)) pa rd nu pt wy za) := mw_c rfl rfl rfl rfl rfl ec_th_6 rfl rfl rfl rfl rfl rfl
      rw [ew_7] at hP hD
      subst hw0
      exact kq_iret hx hb hrt hlocks e_5 hP hD hS dX5_row_47
    · obtain ⟨wq, hwq, rfl⟩ := wthn6_out c_19_3
      have hc_wq : cl (nI wq) = wq := cl_nI (show wq < 2 ^ 31 by omega)
      refine lv_iconst (v := nI 0) hx hb dX5_row_22 (by decide) ?_
      refine lv_goto (tgt := 27) hx hb dX5_row_23 (by decide) ?_
      refine va_put (D := D) (ci := 5) (v := .int (nI 0)) (ty := .int) (C := RX5) (T := TX5) (N := 12) hx hb hts iX5_row_5 tyX5 tyX5_ok nmX5 hown hK hP hD hS 0 rfl rfl 5 (by decide) (hts (.fieldLink RX5 25 "HallSightsModel" "thrown" "I") (List.mem_of_getElem? (i := 1) rfl)) (fun _ h9 => h9) rfl (by decide +kernel) rfl rfl (Nat.le_of_ble_eq_true rfl) dX5_row_27 (fun H locs hP hD hS => ?_)
      have hP : va_P D vwCl (MW a cI z (nI ns) zh (nI nl) tx (nI 0) pa rd nu pt wy za) H := hP
      have hD : va_D (kA w0) (MW a cI z (nI ns) zh (nI nl) tx (nI 0) pa rd nu pt wy za) := hD
      refine lv_aload_n hx hb dX5_row_30 rfl (lv_at hl 0 rfl) ?_
      refine va_get (D := D) (ci := 5) (v := .int (nI 0)) (C := RX5) (T := TX5) (N := 12) hx hb hts iX5_row_5 hown hK hP 0 rfl rfl 5 (by decide) (hts (.fieldLink RX5 25 "HallSightsModel" "thrown" "I") (List.mem_of_getElem? (i := 1) rfl)) (fun _ h9 => h9) rfl dX5_row_31 ?_
      refine kx_if_le (tgt := 41) hx hb (by omega) dX5_row_34 (by decide) (fun c_34_8 => ?_) (fun c => absurd c (by omega))
      refine lv_aload_n hx hb dX5_row_41 rfl (lv_at hl 0 rfl) ?_
      refine lv_iload_n hx hb dX5_row_42 rfl (lv_at hl 1 rfl) ?_
      refine lv_iload_n hx hb dX5_row_43 rfl (lv_at hl 2 rfl) ?_
      refine kr_V (As := [.int (nI r0), .int (nI wq)]) (rest := []) (C := RX5) (own := RX5) ⟨hx, hb, hml, hown, hts⟩ (c_X5_rowNow l D cI cC cH cL a z zh tx pa wy (nI ns) (nI nl) (nI 0) rd nu pt za r0 wq (by first | assumption | omega) (by first | assumption | omega) (by first | assumption | omega)) (cwV 2 hts gX5_row_X5_rowNow rfl rfl rfl k_X5_rowNow ⟨Nat.le_of_ble_eq_true rfl, Nat.le_of_ble_eq_true rfl⟩) hP hK (va_recv (q := (RX5, TX5, 12)) hK hP (ci := 5) (q0 := 0) rfl rfl) rfl hl.1 rfl (Nat.le_of_ble_eq_true rfl) dX5_row_44 ⟨Nat.le_of_ble_eq_true rfl, Nat.le_of_ble_eq_true rfl⟩ ?_
      have e_9 : (rowNowI z r0 wq : Int32) = (if tRowW z (nI r0) (nI wq) = 0 then rowNowI z (cl (nI r0)) (cl (nI wq)) else nI 0) := by first | rfl | omega | (simp [tRowW, Int32.not_lt, Int32.not_le, c_6_0, hc_r0, c_19_3, hc_wq]; done) | (simp [tRowW, Int32.not_lt, Int32.not_le, c_6_0, hc_r0, c_19_3, hc_wq]; omega) | (revert c_6_0 hc_r0 c_19_3 hc_wq; simp +contextual [tRowW, Int32.not_lt, Int32.not_le]; done) | (revert c_6_0 hc_r0 c_19_3 hc_wq; simp +contextual [tRowW, Int32.not_lt, Int32.not_le]; omega)
      have ec_th_10 : ((nI 0) : Int32) = (nI (tRowW z (nI r0) (nI wq))) := by first | rfl | omega | (simp [tRowW, Int32.not_lt, Int32.not_le, c_6_0, hc_r0, c_19_3, hc_wq]; done) | (simp [tRowW, Int32.not_lt, Int32.not_le, c_6_0, hc_r0, c_19_3, hc_wq]; omega) | (revert c_6_0 hc_r0 c_19_3 hc_wq; simp +contextual [tRowW, Int32.not_lt, Int32.not_le]; done) | (revert c_6_0 hc_r0 c_19_3 hc_wq; simp +contextual [tRowW, Int32.not_lt, Int32.not_le]; omega)
      have ew_11 : (MW a cI z (nI ns) zh (nI nl) tx (nI 0) pa rd nu pt wy za : va_W) = (MW a cI z (nI ns) zh (nI nl) tx (nI (tRowW z (nI r0) (nI wq))) pa rd nu pt wy za) := mw_c rfl rfl rfl rfl rfl ec_th_10 rfl rfl rfl rfl rfl rfl
      rw [ew_11] at hP hD
      subst hw0
      exact kq_iret hx hb hrt hlocks e_9 hP hD hS dX5_row_47
  · refine lv_iconst (v := nI 1) hx hb dX5_row_9 (by decide) ?_
    refine lv_goto (tgt := 27) hx hb dX5_row_10 (by decide) ?_
    refine va_put (D := D) (ci := 5) (v := .int (nI 1)) (ty := .int) (C := RX5) (T := TX5) (N := 12) hx hb hts iX5_row_5 tyX5 tyX5_ok nmX5 hown hK hP hD hS 0 rfl rfl 5 (by decide) (hts (.fieldLink RX5 25 "HallSightsModel" "thrown" "I") (List.mem_of_getElem? (i := 1) rfl)) (fun _ h9 => h9) rfl (by decide +kernel) rfl rfl (Nat.le_of_ble_eq_true rfl) dX5_row_27 (fun H locs hP hD hS => ?_)
    have hP : va_P D vwCl (MW a cI z (nI ns) zh (nI nl) tx (nI 1) pa rd nu pt wy za) H := hP
    have hD : va_D (kA w0) (MW a cI z (nI ns) zh (nI nl) tx (nI 1) pa rd nu pt wy za) := hD
    refine lv_aload_n hx hb dX5_row_30 rfl (lv_at hl 0 rfl) ?_
    refine va_get (D := D) (ci := 5) (v := .int (nI 1)) (C := RX5) (T := TX5) (N := 12) hx hb hts iX5_row_5 hown hK hP 0 rfl rfl 5 (by decide) (hts (.fieldLink RX5 25 "HallSightsModel" "thrown" "I") (List.mem_of_getElem? (i := 1) rfl)) (fun _ h9 => h9) rfl dX5_row_31 ?_
    refine kx_if_le (tgt := 41) hx hb (by omega) dX5_row_34 (by decide) (fun c => absurd c (by omega)) (fun c_34_12 => ?_)
    refine lv_iconst (v := nI 0) hx hb dX5_row_37 (by decide) ?_
    refine lv_goto (tgt := 47) hx hb dX5_row_38 (by decide) ?_
    have e_13 : (nI 0 : Int32) = (if tRowW z ro wh = 0 then rowNowI z (cl ro) (cl wh) else nI 0) := by first | rfl | omega | (simp [tRowW, Int32.not_lt, Int32.not_le, c_6_1]; done) | (simp [tRowW, Int32.not_lt, Int32.not_le, c_6_1]; omega) | (revert c_6_1; simp +contextual [tRowW, Int32.not_lt, Int32.not_le]; done) | (revert c_6_1; simp +contextual [tRowW, Int32.not_lt, Int32.not_le]; omega)
    have ec_th_14 : ((nI 1) : Int32) = (nI (tRowW z ro wh)) := by first | rfl | omega | (simp [tRowW, Int32.not_lt, Int32.not_le, c_6_1]; done) | (simp [tRowW, Int32.not_lt, Int32.not_le, c_6_1]; omega) | (revert c_6_1; simp +contextual [tRowW, Int32.not_lt, Int32.not_le]; done) | (revert c_6_1; simp +contextual [tRowW, Int32.not_lt, Int32.not_le]; omega)
    have ew_15 : (MW a cI z (nI ns) zh (nI nl) tx (nI 1) pa rd nu pt wy za : va_W) = (MW a cI z (nI ns) zh (nI nl) tx (nI (tRowW z ro wh)) pa rd nu pt wy za) := mw_c rfl rfl rfl rfl rfl ec_th_14 rfl rfl rfl rfl rfl rfl
    rw [ew_15] at hP hD
    subst hw0
    exact kq_iret hx hb hrt hlocks e_13 hP hD hS dX5_row_47
set_option maxRecDepth 20000 in
theorem iX5_seat_5 : ∀ w ∈ wsX50, w ∈ wsX5_seat := by decide +kernel
set_option maxHeartbeats 4000000 in
set_option maxRecDepth 100000 in
theorem c_X5_seat (l : Launch) (D : va_G) (cI cC cH cL : ClassId) (a : Nat → Nat) (z zh tx pa wy : ZZ) (ns nl : Nat) (th rd nu pt : Int32) (za : Int64) (ro : Int32) (se : Int32) (wh : Int32) (hw : WF z) : Met l yX5_seat wsX5_seat ({ frames := 8, cells := 0, slots := 0, locals := 190 }) (kw [.ref (a 0), .int ro, .int se, .int wh] D (MW a cI z (nI ns) zh (nI nl) tx th pa rd nu pt wy za) (kT cI cC cH cL)) (kq D (MW a cI z (nI ns) zh (nI nl) tx th pa rd nu pt wy za) (MW a cI z (nI ns) zh (nI nl) tx (nI (tSeatW z ro se wh)) pa rd nu pt (if tSeatW z ro se wh = 0 then seatWy z wy (cl wh) else wy) za) (.returned (some (.int (if tSeatW z ro se wh = 0 then seatI z wy (cl ro) (cl se) (cl wh) else nI 0))))) 0 0 (kA (MW a cI z (nI ns) zh (nI nl) tx th pa rd nu pt wy za)) := by
  refine Met.ofW (cc := cX5_seat) (maxL := 4) (ret := (some .int)) (by decide) rfl ?_
  intro p e s m args below meth c s₁ B hml hv
  obtain ⟨rfl, hP, hK, hD0⟩ := hv
  have hx := B.exec
  have hb := B.bytes
  have hrt := B.returns
  have hts := atoms_spec (ws := wsX5_seat) B.pre
  have hown : s.vm.findClass RX5 = some m.cls := findClass_of_methodNamed B.named
  have hlocks := B.notSynchronized
  have hl := lv_entry ([.ref (a 0), .int ro, .int se, .int wh]) (n := 4) (Nat.le_of_ble_eq_true rfl)
  rw [lg_entry_eq]
  generalize (lg_sl ([.ref (a 0), .int ro, .int se, .int wh]) ++ List.replicate (4 - (lg_sl ([.ref (a 0), .int ro, .int se, .int wh])).length) Slot.unset).toArray = ls at hl ⊢
  have hl : lv_has ls 4 [(0, .ref (a 0)), (1, .int ro), (2, .int se), (3, .int wh)] := hl
  have hD := kA_self hD0
  obtain ⟨w0, hw0⟩ : ∃ w : va_W, w = MW a cI z (nI ns) zh (nI nl) tx th pa rd nu pt wy za := ⟨_, rfl⟩
  have hD : va_D (kA w0) (MW a cI z (nI ns) zh (nI nl) tx th pa rd nu pt wy za) := by rw [hw0]; exact hD
  have hS : va_S (kA w0) s.heap s.heap [] := va_S.rf
  rw [show kA (MW a cI z (nI ns) zh (nI nl) tx th pa rd nu pt wy za) = kA w0 from by rw [hw0], show kq D (MW a cI z (nI ns) zh (nI nl) tx th pa rd nu pt wy za) = kq D w0 from by rw [hw0]]
  have hP : va_P D vwCl (MW a cI z (nI ns) zh (nI nl) tx th pa rd nu pt wy za) s.heap := hP
  have hR10 := wf_R10 hw
  have hC4 := wf_C4 hw
  refine lv_aload_n hx hb dX5_seat_0 rfl (lv_at hl 0 rfl) ?_
  refine lv_aload_n hx hb dX5_seat_1 rfl (lv_at hl 0 rfl) ?_
  refine lv_iload_n hx hb dX5_seat_2 rfl (lv_at hl 1 rfl) ?_
  refine lv_iload_n hx hb dX5_seat_3 rfl (lv_at hl 2 rfl) ?_
  refine kr_V (As := [.int ro, .int se]) (rest := [.ref (a 0)]) (C := RX5) (own := RX5) ⟨hx, hb, hml, hown, hts⟩ (c_X5_isSeat l D cI cC cH cL a z zh tx pa wy (nI ns) (nI nl) th rd nu pt za ro se (by first | assumption | omega)) (cwV 2 hts gX5_seat_X5_isSeat rfl rfl rfl k_X5_isSeat ⟨Nat.le_of_ble_eq_true rfl, Nat.le_of_ble_eq_true rfl⟩) hP hK (va_recv (q := (RX5, TX5, 12)) hK hP (ci := 5) (q0 := 0) rfl rfl) rfl hl.1 rfl (Nat.le_of_ble_eq_true rfl) dX5_seat_4 ⟨Nat.le_of_ble_eq_true rfl, Nat.le_of_ble_eq_true rfl⟩ ?_
  refine kx_if_neb (tgt := 14) hx hb dX5_seat_7 (by decide) (fun c_7_0 => ?_) (fun c_7_1 => ?_)
  · obtain ⟨r0, s0, hr0, hs0, rfl, rfl⟩ := isSeat_out hw c_7_0
    have hS0 := wf_S12 hw hr0
    have hc_r0 : cl (nI r0) = r0 := cl_nI (show r0 < 2 ^ 31 by omega)
    have hc_s0 : cl (nI s0) = s0 := cl_nI (show s0 < 2 ^ 31 by omega)
    refine lv_iload_n hx hb dX5_seat_14 rfl (lv_at hl 3 rfl) ?_
    refine lv_iconst (v := nI 0) hx hb dX5_seat_15 (by decide) ?_
    refine lv_bipush (v := nI 6) hx hb dX5_seat_16 (by decide) ?_
    refine kr_S (As := [.int wh, .int (nI 0), .int (nI 6)]) (rest := [.ref (a 0)]) (own := RX5) ⟨hx, hb, hml, hown, hts⟩ (c_X5_within l D cI cC cH cL  wh (nI 0) (nI 6) ) (va_cwS 3 hts gX5_seat_X5_within rfl rfl rfl k_X5_withinS ⟨Nat.le_of_ble_eq_true rfl, Nat.le_of_ble_eq_true rfl⟩) (hP.sub (ws' := []) [] rfl) hK rfl hl.1 rfl (Nat.le_of_ble_eq_true rfl) dX5_seat_18 ⟨Nat.le_of_ble_eq_true rfl, Nat.le_of_ble_eq_true rfl⟩ ?_
    refine kx_if_eqb (tgt := 28) hx hb dX5_seat_21 (by decide) (fun c_21_2 => ?_) (fun c_21_3 => ?_)
    · refine lv_iconst (v := nI 2) hx hb dX5_seat_28 (by decide) ?_
      refine va_put (D := D) (ci := 5) (v := .int (nI 2)) (ty := .int) (C := RX5) (T := TX5) (N := 12) hx hb hts iX5_seat_5 tyX5 tyX5_ok nmX5 hown hK hP hD hS 0 rfl rfl 5 (by decide) (hts (.fieldLink RX5 25 "HallSightsModel" "thrown" "I") (List.mem_of_getElem? (i := 1) rfl)) (fun _ h9 => h9) rfl (by decide +kernel) rfl rfl (Nat.le_of_ble_eq_true rfl) dX5_seat_29 (fun H locs hP hD hS => ?_)
      have hP : va_P D vwCl (MW a cI z (nI ns) zh (nI nl) tx (nI 2) pa rd nu pt wy za) H := hP
      have hD : va_D (kA w0) (MW a cI z (nI ns) zh (nI nl) tx (nI 2) pa rd nu pt wy za) := hD
      refine lv_aload_n hx hb dX5_seat_32 rfl (lv_at hl 0 rfl) ?_
      refine va_get (D := D) (ci := 5) (v := .int (nI 2)) (C := RX5) (T := TX5) (N := 12) hx hb hts iX5_seat_5 hown hK hP 0 rfl rfl 5 (by decide) (hts (.fieldLink RX5 25 "HallSightsModel" "thrown" "I") (List.mem_of_getElem? (i := 1) rfl)) (fun _ h9 => h9) rfl dX5_seat_33 ?_
      refine kx_if_le (tgt := 43) hx hb (by omega) dX5_seat_36 (by decide) (fun c => absurd c (by omega)) (fun c_36_4 => ?_)
      refine lv_iconst (v := nI 0) hx hb dX5_seat_39 (by decide) ?_
      refine lv_goto (tgt := 50) hx hb dX5_seat_40 (by decide) ?_
      have e_5 : (nI 0 : Int32) = (if tSeatW z (nI r0) (nI s0) wh = 0 then seatI z wy (cl (nI r0)) (cl (nI s0)) (cl wh) else nI 0) := by first | rfl | omega | (simp [tSeatW, Int32.not_lt, Int32.not_le, c_7_0, hc_r0, hc_s0, c_21_2]; done) | (simp [tSeatW, Int32.not_lt, Int32.not_le, c_7_0, hc_r0, hc_s0, c_21_2]; omega) | (revert c_7_0 hc_r0 hc_s0 c_21_2; simp +contextual [tSeatW, Int32.not_lt, Int32.not_le]; done) | (revert c_7_0 hc_r0 hc_s0 c_21_2; simp +contextual [tSeatW, Int32.not_lt, Int32.not_le]; omega)
      have ec_th_6 : ((nI 2) : Int32) = (nI (tSeatW z (nI r0) (nI s0) wh)) := by first | rfl | omega | (simp [tSeatW, Int32.not_lt, Int32.not_le, c_7_0, hc_r0, hc_s0, c_21_2]; done) | (simp [tSeatW, Int32.not_lt, Int32.not_le, c_7_0, hc_r0, hc_s0, c_21_2]; omega) | (revert c_7_0 hc_r0 hc_s0 c_21_2; simp +contextual [tSeatW, Int32.not_lt, Int32.not_le]; done) | (revert c_7_0 hc_r0 hc_s0 c_21_2; simp +contextual [tSeatW, Int32.not_lt, Int32.not_le]; omega)
      have ec_wy_7 : (wy : ZZ) = (if tSeatW z (nI r0) (nI s0) wh = 0 then seatWy z wy (cl wh) else wy) := by first | rfl | omega | (simp [tSeatW, Int32.not_lt, Int32.not_le, c_7_0, hc_r0, hc_s0, c_21_2]; done) | (simp [tSeatW, Int32.not_lt, Int32.not_le, c_7_0, hc_r0, hc_s0, c_21_2]; omega) | (revert c_7_0 hc_r0 hc_s0 c_21_2; simp +contextual [tSeatW, Int32.not_lt, Int32.not_le]; done) | (revert c_7_0 hc_r0 hc_s0 c_21_2; simp +contextual [tSeatW, Int32.not_lt, Int32.not_le]; omega)
      have ew_8 : (MW a cI z (nI ns) zh (nI nl) tx (nI 2) pa rd nu pt wy za : va_W) = (MW a cI z (nI ns) zh (nI nl) tx (nI (tSeatW z (nI r0) (nI s0) wh)) pa rd nu pt (if tSeatW z (nI r0) (nI s0) wh = 0 then seatWy z wy (cl wh) else wy) za) := mw_c rfl rfl rfl rfl rfl ec_th_6 rfl rfl rfl rfl ec_wy_7 rfl
      rw [ew_8] at hP hD
      subst hw0
      exact kq_iret hx hb hrt hlocks e_5 hP hD hS dX5_seat_50
    · obtain ⟨wq, hwq, rfl⟩ := wthn7_out c_21_3
      have hc_wq : cl (nI wq) = wq := cl_nI (show wq < 2 ^ 31 by omega)
      refine lv_iconst (v := nI 0) hx hb dX5_seat_24 (by decide) ?_
      refine lv_goto (tgt := 29) hx hb dX5_seat_25 (by decide) ?_
      refine va_put (D := D) (ci := 5) (v := .int (nI 0)) (ty := .int) (C := RX5) (T := TX5) (N := 12) hx hb hts iX5_seat_5 tyX5 tyX5_ok nmX5 hown hK hP hD hS 0 rfl rfl 5 (by decide) (hts (.fieldLink RX5 25 "HallSightsModel" "thrown" "I") (List.mem_of_getElem? (i := 1) rfl)) (fun _ h9 => h9) rfl (by decide +kernel) rfl rfl (Nat.le_of_ble_eq_true rfl) dX5_seat_29 (fun H locs hP hD hS => ?_)
      have hP : va_P D vwCl (MW a cI z (nI ns) zh (nI nl) tx (nI 0) pa rd nu pt wy za) H := hP
      have hD : va_D (kA w0) (MW a cI z (nI ns) zh (nI nl) tx (nI 0) pa rd nu pt wy za) := hD
      refine lv_aload_n hx hb dX5_seat_32 rfl (lv_at hl 0 rfl) ?_
      refine va_get (D := D) (ci := 5) (v := .int (nI 0)) (C := RX5) (T := TX5) (N := 12) hx hb hts iX5_seat_5 hown hK hP 0 rfl rfl 5 (by decide) (hts (.fieldLink RX5 25 "HallSightsModel" "thrown" "I") (List.mem_of_getElem? (i := 1) rfl)) (fun _ h9 => h9) rfl dX5_seat_33 ?_
      refine kx_if_le (tgt := 43) hx hb (by omega) dX5_seat_36 (by decide) (fun c_36_9 => ?_) (fun c => absurd c (by omega))
      refine lv_aload_n hx hb dX5_seat_43 rfl (lv_at hl 0 rfl) ?_
      refine lv_iload_n hx hb dX5_seat_44 rfl (lv_at hl 1 rfl) ?_
      refine lv_iload_n hx hb dX5_seat_45 rfl (lv_at hl 2 rfl) ?_
      refine lv_iload_n hx hb dX5_seat_46 rfl (lv_at hl 3 rfl) ?_
      refine kw_V (As := [.int (nI r0), .int (nI s0), .int (nI wq)]) (rest := []) (C := RX5) (own := RX5) ⟨hx, hb, hml, hown, hts⟩ (c_X5_seatNow l D cI cC cH cL a z zh tx pa wy (nI ns) (nI nl) (nI 0) rd nu pt za r0 s0 wq (by first | assumption | omega) (by first | assumption | omega) (by first | assumption | omega) (by first | assumption | omega)) (cwV 3 hts gX5_seat_X5_seatNow rfl rfl rfl k_X5_seatNow ⟨Nat.le_of_ble_eq_true rfl, Nat.le_of_ble_eq_true rfl⟩) hP hD hK hS [0, 1, 2, 3, 4, 5] [] rfl rfl (wr := []) rfl (by decide) (by decide) (by decide) (va_recv (q := (RX5, TX5, 12)) hK hP (ci := 5) (q0 := 0) rfl rfl) rfl hl.1 rfl (Nat.le_of_ble_eq_true rfl) dX5_seat_47 ⟨Nat.le_of_ble_eq_true rfl, Nat.le_of_ble_eq_true rfl⟩ (fun H locs hP hD hS => ?_)
      have hP : va_P D vwCl (MW a cI z (nI ns) zh (nI nl) tx (nI 0) pa rd nu pt (seatWy z wy wq) za) H := hP
      have hD : va_D (kA w0) (MW a cI z (nI ns) zh (nI nl) tx (nI 0) pa rd nu pt (seatWy z wy wq) za) := hD
      have e_10 : (seatI z wy r0 s0 wq : Int32) = (if tSeatW z (nI r0) (nI s0) (nI wq) = 0 then seatI z wy (cl (nI r0)) (cl (nI s0)) (cl (nI wq)) else nI 0) := by first | rfl | omega | (simp [tSeatW, Int32.not_lt, Int32.not_le, c_7_0, hc_r0, hc_s0, c_21_3, hc_wq]; done) | (simp [tSeatW, Int32.not_lt, Int32.not_le, c_7_0, hc_r0, hc_s0, c_21_3, hc_wq]; omega) | (revert c_7_0 hc_r0 hc_s0 c_21_3 hc_wq; simp +contextual [tSeatW, Int32.not_lt, Int32.not_le]; done) | (revert c_7_0 hc_r0 hc_s0 c_21_3 hc_wq; simp +contextual [tSeatW, Int32.not_lt, Int32.not_le]; omega)
      have ec_th_11 : ((nI 0) : Int32) = (nI (tSeatW z (nI r0) (nI s0) (nI wq))) := by first | rfl | omega | (simp [tSeatW, Int32.not_lt, Int32.not_le, c_7_0, hc_r0, hc_s0, c_21_3, hc_wq]; done) | (simp [tSeatW, Int32.not_lt, Int32.not_le, c_7_0, hc_r0, hc_s0, c_21_3, hc_wq]; omega) | (revert c_7_0 hc_r0 hc_s0 c_21_3 hc_wq; simp +contextual [tSeatW, Int32.not_lt, Int32.not_le]; done) | (revert c_7_0 hc_r0 hc_s0 c_21_3 hc_wq; simp +contextual [tSeatW, Int32.not_lt, Int32.not_le]; omega)
      have ec_wy_12 : ((seatWy z wy wq) : ZZ) = (if tSeatW z (nI r0) (nI s0) (nI wq) = 0 then seatWy z wy (cl (nI wq)) else wy) := by first | rfl | omega | (simp [tSeatW, Int32.not_lt, Int32.not_le, c_7_0, hc_r0, hc_s0, c_21_3, hc_wq]; done) | (simp [tSeatW, Int32.not_lt, Int32.not_le, c_7_0, hc_r0, hc_s0, c_21_3, hc_wq]; omega) | (revert c_7_0 hc_r0 hc_s0 c_21_3 hc_wq; simp +contextual [tSeatW, Int32.not_lt, Int32.not_le]; done) | (revert c_7_0 hc_r0 hc_s0 c_21_3 hc_wq; simp +contextual [tSeatW, Int32.not_lt, Int32.not_le]; omega)
      have ew_13 : (MW a cI z (nI ns) zh (nI nl) tx (nI 0) pa rd nu pt (seatWy z wy wq) za : va_W) = (MW a cI z (nI ns) zh (nI nl) tx (nI (tSeatW z (nI r0) (nI s0) (nI wq))) pa rd nu pt (if tSeatW z (nI r0) (nI s0) (nI wq) = 0 then seatWy z wy (cl (nI wq)) else wy) za) := mw_c rfl rfl rfl rfl rfl ec_th_11 rfl rfl rfl rfl ec_wy_12 rfl
      rw [ew_13] at hP hD
      subst hw0
      exact kq_iret hx hb hrt hlocks e_10 hP hD hS dX5_seat_50
  · refine lv_iconst (v := nI 1) hx hb dX5_seat_10 (by decide) ?_
    refine lv_goto (tgt := 29) hx hb dX5_seat_11 (by decide) ?_
    refine va_put (D := D) (ci := 5) (v := .int (nI 1)) (ty := .int) (C := RX5) (T := TX5) (N := 12) hx hb hts iX5_seat_5 tyX5 tyX5_ok nmX5 hown hK hP hD hS 0 rfl rfl 5 (by decide) (hts (.fieldLink RX5 25 "HallSightsModel" "thrown" "I") (List.mem_of_getElem? (i := 1) rfl)) (fun _ h9 => h9) rfl (by decide +kernel) rfl rfl (Nat.le_of_ble_eq_true rfl) dX5_seat_29 (fun H locs hP hD hS => ?_)
    have hP : va_P D vwCl (MW a cI z (nI ns) zh (nI nl) tx (nI 1) pa rd nu pt wy za) H := hP
    have hD : va_D (kA w0) (MW a cI z (nI ns) zh (nI nl) tx (nI 1) pa rd nu pt wy za) := hD
    refine lv_aload_n hx hb dX5_seat_32 rfl (lv_at hl 0 rfl) ?_
    refine va_get (D := D) (ci := 5) (v := .int (nI 1)) (C := RX5) (T := TX5) (N := 12) hx hb hts iX5_seat_5 hown hK hP 0 rfl rfl 5 (by decide) (hts (.fieldLink RX5 25 "HallSightsModel" "thrown" "I") (List.mem_of_getElem? (i := 1) rfl)) (fun _ h9 => h9) rfl dX5_seat_33 ?_
    refine kx_if_le (tgt := 43) hx hb (by omega) dX5_seat_36 (by decide) (fun c => absurd c (by omega)) (fun c_36_14 => ?_)
    refine lv_iconst (v := nI 0) hx hb dX5_seat_39 (by decide) ?_
    refine lv_goto (tgt := 50) hx hb dX5_seat_40 (by decide) ?_
    have e_15 : (nI 0 : Int32) = (if tSeatW z ro se wh = 0 then seatI z wy (cl ro) (cl se) (cl wh) else nI 0) := by first | rfl | omega | (simp [tSeatW, Int32.not_lt, Int32.not_le, c_7_1]; done) | (simp [tSeatW, Int32.not_lt, Int32.not_le, c_7_1]; omega) | (revert c_7_1; simp +contextual [tSeatW, Int32.not_lt, Int32.not_le]; done) | (revert c_7_1; simp +contextual [tSeatW, Int32.not_lt, Int32.not_le]; omega)
    have ec_th_16 : ((nI 1) : Int32) = (nI (tSeatW z ro se wh)) := by first | rfl | omega | (simp [tSeatW, Int32.not_lt, Int32.not_le, c_7_1]; done) | (simp [tSeatW, Int32.not_lt, Int32.not_le, c_7_1]; omega) | (revert c_7_1; simp +contextual [tSeatW, Int32.not_lt, Int32.not_le]; done) | (revert c_7_1; simp +contextual [tSeatW, Int32.not_lt, Int32.not_le]; omega)
    have ec_wy_17 : (wy : ZZ) = (if tSeatW z ro se wh = 0 then seatWy z wy (cl wh) else wy) := by first | rfl | omega | (simp [tSeatW, Int32.not_lt, Int32.not_le, c_7_1]; done) | (simp [tSeatW, Int32.not_lt, Int32.not_le, c_7_1]; omega) | (revert c_7_1; simp +contextual [tSeatW, Int32.not_lt, Int32.not_le]; done) | (revert c_7_1; simp +contextual [tSeatW, Int32.not_lt, Int32.not_le]; omega)
    have ew_18 : (MW a cI z (nI ns) zh (nI nl) tx (nI 1) pa rd nu pt wy za : va_W) = (MW a cI z (nI ns) zh (nI nl) tx (nI (tSeatW z ro se wh)) pa rd nu pt (if tSeatW z ro se wh = 0 then seatWy z wy (cl wh) else wy) za) := mw_c rfl rfl rfl rfl rfl ec_th_16 rfl rfl rfl rfl ec_wy_17 rfl
    rw [ew_18] at hP hD
    subst hw0
    exact kq_iret hx hb hrt hlocks e_15 hP hD hS dX5_seat_50
set_option maxRecDepth 20000 in
theorem iX5_column_5 : ∀ w ∈ wsX50, w ∈ wsX5_column := by decide +kernel
set_option maxHeartbeats 4000000 in
set_option maxRecDepth 100000 in
theorem c_X5_column (l : Launch) (D : va_G) (cI cC cH cL : ClassId) (a : Nat → Nat) (z zh tx pa wy : ZZ) (ns nl : Nat) (th rd nu pt : Int32) (za : Int64) (co : Int32) (wh : Int32) (hw : WF z) : Met l yX5_column wsX5_column ({ frames := 5, cells := 0, slots := 0, locals := 115 }) (kw [.ref (a 0), .int co, .int wh] D (MW a cI z (nI ns) zh (nI nl) tx th pa rd nu pt wy za) (kT cI cC cH cL)) (kq D (MW a cI z (nI ns) zh (nI nl) tx th pa rd nu pt wy za) (MW a cI z (nI ns) zh (nI nl) tx (nI (tColW z co wh)) pa rd nu pt wy za) (.returned (some (.int (if tColW z co wh = 0 then colNow z (cl co) (cl wh) else nI 0))))) 0 0 (kA (MW a cI z (nI ns) zh (nI nl) tx th pa rd nu pt wy za)) := by
  refine Met.ofW (cc := cX5_column) (maxL := 3) (ret := (some .int)) (by decide) rfl ?_
  intro p e s m args below meth c s₁ B hml hv
  obtain ⟨rfl, hP, hK, hD0⟩ := hv
  have hx := B.exec
  have hb := B.bytes
  have hrt := B.returns
  have hts := atoms_spec (ws := wsX5_column) B.pre
  have hown : s.vm.findClass RX5 = some m.cls := findClass_of_methodNamed B.named
  have hlocks := B.notSynchronized
  have hl := lv_entry ([.ref (a 0), .int co, .int wh]) (n := 3) (Nat.le_of_ble_eq_true rfl)
  rw [lg_entry_eq]
  generalize (lg_sl ([.ref (a 0), .int co, .int wh]) ++ List.replicate (3 - (lg_sl ([.ref (a 0), .int co, .int wh])).length) Slot.unset).toArray = ls at hl ⊢
  have hl : lv_has ls 3 [(0, .ref (a 0)), (1, .int co), (2, .int wh)] := hl
  have hD := kA_self hD0
  obtain ⟨w0, hw0⟩ : ∃ w : va_W, w = MW a cI z (nI ns) zh (nI nl) tx th pa rd nu pt wy za := ⟨_, rfl⟩
  have hD : va_D (kA w0) (MW a cI z (nI ns) zh (nI nl) tx th pa rd nu pt wy za) := by rw [hw0]; exact hD
  have hS : va_S (kA w0) s.heap s.heap [] := va_S.rf
  rw [show kA (MW a cI z (nI ns) zh (nI nl) tx th pa rd nu pt wy za) = kA w0 from by rw [hw0], show kq D (MW a cI z (nI ns) zh (nI nl) tx th pa rd nu pt wy za) = kq D w0 from by rw [hw0]]
  have hP : va_P D vwCl (MW a cI z (nI ns) zh (nI nl) tx th pa rd nu pt wy za) s.heap := hP
  have hR10 := wf_R10 hw
  have hC4 := wf_C4 hw
  refine lv_aload_n hx hb dX5_column_0 rfl (lv_at hl 0 rfl) ?_
  refine lv_aload_n hx hb dX5_column_1 rfl (lv_at hl 0 rfl) ?_
  refine lv_iload_n hx hb dX5_column_2 rfl (lv_at hl 1 rfl) ?_
  refine kr_V (As := [.int co]) (rest := [.ref (a 0)]) (C := RX5) (own := RX5) ⟨hx, hb, hml, hown, hts⟩ (c_X5_isColumn l D cI cC cH cL a z zh tx pa wy (nI ns) (nI nl) th rd nu pt za co (by first | assumption | omega)) (cwV 1 hts gX5_column_X5_isColumn rfl rfl rfl k_X5_isColumn ⟨Nat.le_of_ble_eq_true rfl, Nat.le_of_ble_eq_true rfl⟩) hP hK (va_recv (q := (RX5, TX5, 12)) hK hP (ci := 5) (q0 := 0) rfl rfl) rfl hl.1 rfl (Nat.le_of_ble_eq_true rfl) dX5_column_3 ⟨Nat.le_of_ble_eq_true rfl, Nat.le_of_ble_eq_true rfl⟩ ?_
  refine kx_if_neb (tgt := 13) hx hb dX5_column_6 (by decide) (fun c_6_0 => ?_) (fun c_6_1 => ?_)
  · obtain ⟨k0, hk0, rfl⟩ := isCol_out hw c_6_0
    have hc_k0 : cl (nI k0) = k0 := cl_nI (show k0 < 2 ^ 31 by omega)
    refine lv_iload_n hx hb dX5_column_13 rfl (lv_at hl 2 rfl) ?_
    refine lv_iconst (v := nI 0) hx hb dX5_column_14 (by decide) ?_
    refine lv_iconst (v := nI 3) hx hb dX5_column_15 (by decide) ?_
    refine kr_S (As := [.int wh, .int (nI 0), .int (nI 3)]) (rest := [.ref (a 0)]) (own := RX5) ⟨hx, hb, hml, hown, hts⟩ (c_X5_within l D cI cC cH cL  wh (nI 0) (nI 3) ) (va_cwS 3 hts gX5_column_X5_within rfl rfl rfl k_X5_withinS ⟨Nat.le_of_ble_eq_true rfl, Nat.le_of_ble_eq_true rfl⟩) (hP.sub (ws' := []) [] rfl) hK rfl hl.1 rfl (Nat.le_of_ble_eq_true rfl) dX5_column_16 ⟨Nat.le_of_ble_eq_true rfl, Nat.le_of_ble_eq_true rfl⟩ ?_
    refine kx_if_eqb (tgt := 26) hx hb dX5_column_19 (by decide) (fun c_19_2 => ?_) (fun c_19_3 => ?_)
    · refine lv_iconst (v := nI 2) hx hb dX5_column_26 (by decide) ?_
      refine va_put (D := D) (ci := 5) (v := .int (nI 2)) (ty := .int) (C := RX5) (T := TX5) (N := 12) hx hb hts iX5_column_5 tyX5 tyX5_ok nmX5 hown hK hP hD hS 0 rfl rfl 5 (by decide) (hts (.fieldLink RX5 25 "HallSightsModel" "thrown" "I") (List.mem_of_getElem? (i := 1) rfl)) (fun _ h9 => h9) rfl (by decide +kernel) rfl rfl (Nat.le_of_ble_eq_true rfl) dX5_column_27 (fun H locs hP hD hS => ?_)
      have hP : va_P D vwCl (MW a cI z (nI ns) zh (nI nl) tx (nI 2) pa rd nu pt wy za) H := hP
      have hD : va_D (kA w0) (MW a cI z (nI ns) zh (nI nl) tx (nI 2) pa rd nu pt wy za) := hD
      refine lv_aload_n hx hb dX5_column_30 rfl (lv_at hl 0 rfl) ?_
      refine va_get (D := D) (ci := 5) (v := .int (nI 2)) (C := RX5) (T := TX5) (N := 12) hx hb hts iX5_column_5 hown hK hP 0 rfl rfl 5 (by decide) (hts (.fieldLink RX5 25 "HallSightsModel" "thrown" "I") (List.mem_of_getElem? (i := 1) rfl)) (fun _ h9 => h9) rfl dX5_column_31 ?_
      refine kx_if_le (tgt := 41) hx hb (by omega) dX5_column_34 (by decide) (fun c => absurd c (by omega)) (fun c_34_4 => ?_)
      refine lv_iconst (v := nI 0) hx hb dX5_column_37 (by decide) ?_
      refine lv_goto (tgt := 47) hx hb dX5_column_38 (by decide) ?_
      have e_5 : (nI 0 : Int32) = (if tColW z (nI k0) wh = 0 then colNow z (cl (nI k0)) (cl wh) else nI 0) := by first | rfl | omega | (simp [tColW, Int32.not_lt, Int32.not_le, c_6_0, hc_k0, c_19_2]; done) | (simp [tColW, Int32.not_lt, Int32.not_le, c_6_0, hc_k0, c_19_2]; omega) | (revert c_6_0 hc_k0 c_19_2; simp +contextual [tColW, Int32.not_lt, Int32.not_le]; done) | (revert c_6_0 hc_k0 c_19_2; simp +contextual [tColW, Int32.not_lt, Int32.not_le]; omega)
      have ec_th_6 : ((nI 2) : Int32) = (nI (tColW z (nI k0) wh)) := by first | rfl | omega | (simp [tColW, Int32.not_lt, Int32.not_le, c_6_0, hc_k0, c_19_2]; done) | (simp [tColW, Int32.not_lt, Int32.not_le, c_6_0, hc_k0, c_19_2]; omega) | (revert c_6_0 hc_k0 c_19_2; simp +contextual [tColW, Int32.not_lt, Int32.not_le]; done) | (revert c_6_0 hc_k0 c_19_2; simp +contextual [tColW, Int32.not_lt, Int32.not_le]; omega)
      have ew_7 : (MW a cI z (nI ns) zh (nI nl) tx (nI 2) pa rd nu pt wy za : va_W) = (MW a cI z (nI ns) zh (nI nl) tx (nI (tColW z (nI k0) wh)) pa rd nu pt wy za) := mw_c rfl rfl rfl rfl rfl ec_th_6 rfl rfl rfl rfl rfl rfl
      rw [ew_7] at hP hD
      subst hw0
      exact kq_iret hx hb hrt hlocks e_5 hP hD hS dX5_column_47
    · obtain ⟨wq, hwq, rfl⟩ := wthn4_out c_19_3
      have hc_wq : cl (nI wq) = wq := cl_nI (show wq < 2 ^ 31 by omega)
      refine lv_iconst (v := nI 0) hx hb dX5_column_22 (by decide) ?_
      refine lv_goto (tgt := 27) hx hb dX5_column_23 (by decide) ?_
      refine va_put (D := D) (ci := 5) (v := .int (nI 0)) (ty := .int) (C := RX5) (T := TX5) (N := 12) hx hb hts iX5_column_5 tyX5 tyX5_ok nmX5 hown hK hP hD hS 0 rfl rfl 5 (by decide) (hts (.fieldLink RX5 25 "HallSightsModel" "thrown" "I") (List.mem_of_getElem? (i := 1) rfl)) (fun _ h9 => h9) rfl (by decide +kernel) rfl rfl (Nat.le_of_ble_eq_true rfl) dX5_column_27 (fun H locs hP hD hS => ?_)
      have hP : va_P D vwCl (MW a cI z (nI ns) zh (nI nl) tx (nI 0) pa rd nu pt wy za) H := hP
      have hD : va_D (kA w0) (MW a cI z (nI ns) zh (nI nl) tx (nI 0) pa rd nu pt wy za) := hD
      refine lv_aload_n hx hb dX5_column_30 rfl (lv_at hl 0 rfl) ?_
      refine va_get (D := D) (ci := 5) (v := .int (nI 0)) (C := RX5) (T := TX5) (N := 12) hx hb hts iX5_column_5 hown hK hP 0 rfl rfl 5 (by decide) (hts (.fieldLink RX5 25 "HallSightsModel" "thrown" "I") (List.mem_of_getElem? (i := 1) rfl)) (fun _ h9 => h9) rfl dX5_column_31 ?_
      refine kx_if_le (tgt := 41) hx hb (by omega) dX5_column_34 (by decide) (fun c_34_8 => ?_) (fun c => absurd c (by omega))
      refine lv_aload_n hx hb dX5_column_41 rfl (lv_at hl 0 rfl) ?_
      refine lv_iload_n hx hb dX5_column_42 rfl (lv_at hl 1 rfl) ?_
      refine lv_iload_n hx hb dX5_column_43 rfl (lv_at hl 2 rfl) ?_
      refine kr_V (As := [.int (nI k0), .int (nI wq)]) (rest := []) (C := RX5) (own := RX5) ⟨hx, hb, hml, hown, hts⟩ (c_X5_columnNow l D cI cC cH cL a z zh tx pa wy (nI ns) (nI nl) (nI 0) rd nu pt za k0 wq (by first | assumption | omega) (by first | assumption | omega) (by first | assumption | omega)) (cwV 2 hts gX5_column_X5_columnNow rfl rfl rfl k_X5_columnNow ⟨Nat.le_of_ble_eq_true rfl, Nat.le_of_ble_eq_true rfl⟩) hP hK (va_recv (q := (RX5, TX5, 12)) hK hP (ci := 5) (q0 := 0) rfl rfl) rfl hl.1 rfl (Nat.le_of_ble_eq_true rfl) dX5_column_44 ⟨Nat.le_of_ble_eq_true rfl, Nat.le_of_ble_eq_true rfl⟩ ?_
      have e_9 : (colNow z k0 wq : Int32) = (if tColW z (nI k0) (nI wq) = 0 then colNow z (cl (nI k0)) (cl (nI wq)) else nI 0) := by first | rfl | omega | (simp [tColW, Int32.not_lt, Int32.not_le, c_6_0, hc_k0, c_19_3, hc_wq]; done) | (simp [tColW, Int32.not_lt, Int32.not_le, c_6_0, hc_k0, c_19_3, hc_wq]; omega) | (revert c_6_0 hc_k0 c_19_3 hc_wq; simp +contextual [tColW, Int32.not_lt, Int32.not_le]; done) | (revert c_6_0 hc_k0 c_19_3 hc_wq; simp +contextual [tColW, Int32.not_lt, Int32.not_le]; omega)
      have ec_th_10 : ((nI 0) : Int32) = (nI (tColW z (nI k0) (nI wq))) := by first | rfl | omega | (simp [tColW, Int32.not_lt, Int32.not_le, c_6_0, hc_k0, c_19_3, hc_wq]; done) | (simp [tColW, Int32.not_lt, Int32.not_le, c_6_0, hc_k0, c_19_3, hc_wq]; omega) | (revert c_6_0 hc_k0 c_19_3 hc_wq; simp +contextual [tColW, Int32.not_lt, Int32.not_le]; done) | (revert c_6_0 hc_k0 c_19_3 hc_wq; simp +contextual [tColW, Int32.not_lt, Int32.not_le]; omega)
      have ew_11 : (MW a cI z (nI ns) zh (nI nl) tx (nI 0) pa rd nu pt wy za : va_W) = (MW a cI z (nI ns) zh (nI nl) tx (nI (tColW z (nI k0) (nI wq))) pa rd nu pt wy za) := mw_c rfl rfl rfl rfl rfl ec_th_10 rfl rfl rfl rfl rfl rfl
      rw [ew_11] at hP hD
      subst hw0
      exact kq_iret hx hb hrt hlocks e_9 hP hD hS dX5_column_47
  · refine lv_iconst (v := nI 1) hx hb dX5_column_9 (by decide) ?_
    refine lv_goto (tgt := 27) hx hb dX5_column_10 (by decide) ?_
    refine va_put (D := D) (ci := 5) (v := .int (nI 1)) (ty := .int) (C := RX5) (T := TX5) (N := 12) hx hb hts iX5_column_5 tyX5 tyX5_ok nmX5 hown hK hP hD hS 0 rfl rfl 5 (by decide) (hts (.fieldLink RX5 25 "HallSightsModel" "thrown" "I") (List.mem_of_getElem? (i := 1) rfl)) (fun _ h9 => h9) rfl (by decide +kernel) rfl rfl (Nat.le_of_ble_eq_true rfl) dX5_column_27 (fun H locs hP hD hS => ?_)
    have hP : va_P D vwCl (MW a cI z (nI ns) zh (nI nl) tx (nI 1) pa rd nu pt wy za) H := hP
    have hD : va_D (kA w0) (MW a cI z (nI ns) zh (nI nl) tx (nI 1) pa rd nu pt wy za) := hD
    refine lv_aload_n hx hb dX5_column_30 rfl (lv_at hl 0 rfl) ?_
    refine va_get (D := D) (ci := 5) (v := .int (nI 1)) (C := RX5) (T := TX5) (N := 12) hx hb hts iX5_column_5 hown hK hP 0 rfl rfl 5 (by decide) (hts (.fieldLink RX5 25 "HallSightsModel" "thrown" "I") (List.mem_of_getElem? (i := 1) rfl)) (fun _ h9 => h9) rfl dX5_column_31 ?_
    refine kx_if_le (tgt := 41) hx hb (by omega) dX5_column_34 (by decide) (fun c => absurd c (by omega)) (fun c_34_12 => ?_)
    refine lv_iconst (v := nI 0) hx hb dX5_column_37 (by decide) ?_
    refine lv_goto (tgt := 47) hx hb dX5_column_38 (by decide) ?_
    have e_13 : (nI 0 : Int32) = (if tColW z co wh = 0 then colNow z (cl co) (cl wh) else nI 0) := by first | rfl | omega | (simp [tColW, Int32.not_lt, Int32.not_le, c_6_1]; done) | (simp [tColW, Int32.not_lt, Int32.not_le, c_6_1]; omega) | (revert c_6_1; simp +contextual [tColW, Int32.not_lt, Int32.not_le]; done) | (revert c_6_1; simp +contextual [tColW, Int32.not_lt, Int32.not_le]; omega)
    have ec_th_14 : ((nI 1) : Int32) = (nI (tColW z co wh)) := by first | rfl | omega | (simp [tColW, Int32.not_lt, Int32.not_le, c_6_1]; done) | (simp [tColW, Int32.not_lt, Int32.not_le, c_6_1]; omega) | (revert c_6_1; simp +contextual [tColW, Int32.not_lt, Int32.not_le]; done) | (revert c_6_1; simp +contextual [tColW, Int32.not_lt, Int32.not_le]; omega)
    have ew_15 : (MW a cI z (nI ns) zh (nI nl) tx (nI 1) pa rd nu pt wy za : va_W) = (MW a cI z (nI ns) zh (nI nl) tx (nI (tColW z co wh)) pa rd nu pt wy za) := mw_c rfl rfl rfl rfl rfl ec_th_14 rfl rfl rfl rfl rfl rfl
    rw [ew_15] at hP hD
    subst hw0
    exact kq_iret hx hb hrt hlocks e_13 hP hD hS dX5_column_47
set_option maxRecDepth 20000 in
theorem iX5_best_5 : ∀ w ∈ wsX50, w ∈ wsX5_best := by decide +kernel
set_option maxHeartbeats 4000000 in
set_option maxRecDepth 100000 in
theorem c_X5_best (l : Launch) (D : va_G) (cI cC cH cL : ClassId) (a : Nat → Nat) (z zh tx pa wy : ZZ) (ns nl : Nat) (th rd nu pt : Int32) (za : Int64) (pl : Int32) (hw : WF z) : Met l yX5_best wsX5_best ({ frames := 7, cells := 0, slots := 0, locals := 165 }) (kw [.ref (a 0), .int pl] D (MW a cI z (nI ns) zh (nI nl) tx th pa rd nu pt wy za) (kT cI cC cH cL)) (kq D (MW a cI z (nI ns) zh (nI nl) tx th pa rd nu pt wy za) (MW a cI z (nI ns) zh (nI nl) tx (nI (if (0 : Int32) ≤ pl then 0 else 1)) pa rd nu pt (if (0 : Int32) ≤ pl then layF z wy else wy) za) (.returned (some (.int (if (0 : Int32) ≤ pl then bestI z (layF z wy) pl else nI 0))))) 0 0 (kA (MW a cI z (nI ns) zh (nI nl) tx th pa rd nu pt wy za)) := by
  refine Met.ofW (cc := cX5_best) (maxL := 2) (ret := (some .int)) (by decide) rfl ?_
  intro p e s m args below meth c s₁ B hml hv
  obtain ⟨rfl, hP, hK, hD0⟩ := hv
  have hx := B.exec
  have hb := B.bytes
  have hrt := B.returns
  have hts := atoms_spec (ws := wsX5_best) B.pre
  have hown : s.vm.findClass RX5 = some m.cls := findClass_of_methodNamed B.named
  have hlocks := B.notSynchronized
  have hl := lv_entry ([.ref (a 0), .int pl]) (n := 2) (Nat.le_of_ble_eq_true rfl)
  rw [lg_entry_eq]
  generalize (lg_sl ([.ref (a 0), .int pl]) ++ List.replicate (2 - (lg_sl ([.ref (a 0), .int pl])).length) Slot.unset).toArray = ls at hl ⊢
  have hl : lv_has ls 2 [(0, .ref (a 0)), (1, .int pl)] := hl
  have hD := kA_self hD0
  obtain ⟨w0, hw0⟩ : ∃ w : va_W, w = MW a cI z (nI ns) zh (nI nl) tx th pa rd nu pt wy za := ⟨_, rfl⟩
  have hD : va_D (kA w0) (MW a cI z (nI ns) zh (nI nl) tx th pa rd nu pt wy za) := by rw [hw0]; exact hD
  have hS : va_S (kA w0) s.heap s.heap [] := va_S.rf
  rw [show kA (MW a cI z (nI ns) zh (nI nl) tx th pa rd nu pt wy za) = kA w0 from by rw [hw0], show kq D (MW a cI z (nI ns) zh (nI nl) tx th pa rd nu pt wy za) = kq D w0 from by rw [hw0]]
  have hP : va_P D vwCl (MW a cI z (nI ns) zh (nI nl) tx th pa rd nu pt wy za) s.heap := hP
  have hR10 := wf_R10 hw
  have hC4 := wf_C4 hw
  refine lv_aload_n hx hb dX5_best_0 rfl (lv_at hl 0 rfl) ?_
  refine lv_iload_n hx hb dX5_best_1 rfl (lv_at hl 1 rfl) ?_
  refine lv_if_ge (tgt := 9) hx hb dX5_best_2 (by decide) (fun c_2_0 => ?_) (fun c_2_1 => ?_)
  · have c_2_0 : (0 : Int32) ≤ pl := c_2_0
    refine lv_iconst (v := nI 0) hx hb dX5_best_9 (by decide) ?_
    refine va_put (D := D) (ci := 5) (v := .int (nI 0)) (ty := .int) (C := RX5) (T := TX5) (N := 12) hx hb hts iX5_best_5 tyX5 tyX5_ok nmX5 hown hK hP hD hS 0 rfl rfl 5 (by decide) (hts (.fieldLink RX5 25 "HallSightsModel" "thrown" "I") (List.mem_of_getElem? (i := 1) rfl)) (fun _ h9 => h9) rfl (by decide +kernel) rfl rfl (Nat.le_of_ble_eq_true rfl) dX5_best_10 (fun H locs hP hD hS => ?_)
    have hP : va_P D vwCl (MW a cI z (nI ns) zh (nI nl) tx (nI 0) pa rd nu pt wy za) H := hP
    have hD : va_D (kA w0) (MW a cI z (nI ns) zh (nI nl) tx (nI 0) pa rd nu pt wy za) := hD
    refine lv_aload_n hx hb dX5_best_13 rfl (lv_at hl 0 rfl) ?_
    refine va_get (D := D) (ci := 5) (v := .int (nI 0)) (C := RX5) (T := TX5) (N := 12) hx hb hts iX5_best_5 hown hK hP 0 rfl rfl 5 (by decide) (hts (.fieldLink RX5 25 "HallSightsModel" "thrown" "I") (List.mem_of_getElem? (i := 1) rfl)) (fun _ h9 => h9) rfl dX5_best_14 ?_
    refine kx_if_le (tgt := 24) hx hb (by omega) dX5_best_17 (by decide) (fun c_17_2 => ?_) (fun c => absurd c (by omega))
    refine lv_aload_n hx hb dX5_best_24 rfl (lv_at hl 0 rfl) ?_
    refine lv_iload_n hx hb dX5_best_25 rfl (lv_at hl 1 rfl) ?_
    refine kw_V (As := [.int pl]) (rest := []) (C := RX5) (own := RX5) ⟨hx, hb, hml, hown, hts⟩ (c_X5_bestAt l D cI cC cH cL a z zh tx pa wy (nI ns) (nI nl) (nI 0) rd nu pt za pl (by first | assumption | omega)) (cwV 1 hts gX5_best_X5_bestAt rfl rfl rfl k_X5_bestAt ⟨Nat.le_of_ble_eq_true rfl, Nat.le_of_ble_eq_true rfl⟩) hP hD hK hS [0, 1, 2, 3, 4, 5] [] rfl rfl (wr := []) rfl (by decide) (by decide) (by decide) (va_recv (q := (RX5, TX5, 12)) hK hP (ci := 5) (q0 := 0) rfl rfl) rfl hl.1 rfl (Nat.le_of_ble_eq_true rfl) dX5_best_26 ⟨Nat.le_of_ble_eq_true rfl, Nat.le_of_ble_eq_true rfl⟩ (fun H locs hP hD hS => ?_)
    have hP : va_P D vwCl (MW a cI z (nI ns) zh (nI nl) tx (nI 0) pa rd nu pt (layF z wy) za) H := hP
    have hD : va_D (kA w0) (MW a cI z (nI ns) zh (nI nl) tx (nI 0) pa rd nu pt (layF z wy) za) := hD
    have e_3 : (bestI z (layF z wy) pl : Int32) = (if (0 : Int32) ≤ pl then bestI z (layF z wy) pl else nI 0) := by first | rfl | omega | (simp [Int32.not_lt, Int32.not_le, c_2_0, Int32.not_lt.mpr c_2_0]; done) | (simp [Int32.not_lt, Int32.not_le, c_2_0, Int32.not_lt.mpr c_2_0]; omega) | (revert c_2_0; simp +contextual [Int32.not_lt, Int32.not_le]; done) | (revert c_2_0; simp +contextual [Int32.not_lt, Int32.not_le]; omega)
    have ec_th_4 : ((nI 0) : Int32) = (nI (if (0 : Int32) ≤ pl then 0 else 1)) := by first | rfl | omega | (simp [Int32.not_lt, Int32.not_le, c_2_0, Int32.not_lt.mpr c_2_0]; done) | (simp [Int32.not_lt, Int32.not_le, c_2_0, Int32.not_lt.mpr c_2_0]; omega) | (revert c_2_0; simp +contextual [Int32.not_lt, Int32.not_le]; done) | (revert c_2_0; simp +contextual [Int32.not_lt, Int32.not_le]; omega)
    have ec_wy_5 : ((layF z wy) : ZZ) = (if (0 : Int32) ≤ pl then layF z wy else wy) := by first | rfl | omega | (simp [Int32.not_lt, Int32.not_le, c_2_0, Int32.not_lt.mpr c_2_0]; done) | (simp [Int32.not_lt, Int32.not_le, c_2_0, Int32.not_lt.mpr c_2_0]; omega) | (revert c_2_0; simp +contextual [Int32.not_lt, Int32.not_le]; done) | (revert c_2_0; simp +contextual [Int32.not_lt, Int32.not_le]; omega)
    have ew_6 : (MW a cI z (nI ns) zh (nI nl) tx (nI 0) pa rd nu pt (layF z wy) za : va_W) = (MW a cI z (nI ns) zh (nI nl) tx (nI (if (0 : Int32) ≤ pl then 0 else 1)) pa rd nu pt (if (0 : Int32) ≤ pl then layF z wy else wy) za) := mw_c rfl rfl rfl rfl rfl ec_th_4 rfl rfl rfl rfl ec_wy_5 rfl
    rw [ew_6] at hP hD
    subst hw0
    exact kq_iret hx hb hrt hlocks e_3 hP hD hS dX5_best_29
  · have c_2_1 : ¬ (0 : Int32) ≤ pl := c_2_1
    refine lv_iconst (v := nI 1) hx hb dX5_best_5 (by decide) ?_
    refine lv_goto (tgt := 10) hx hb dX5_best_6 (by decide) ?_
    refine va_put (D := D) (ci := 5) (v := .int (nI 1)) (ty := .int) (C := RX5) (T := TX5) (N := 12) hx hb hts iX5_best_5 tyX5 tyX5_ok nmX5 hown hK hP hD hS 0 rfl rfl 5 (by decide) (hts (.fieldLink RX5 25 "HallSightsModel" "thrown" "I") (List.mem_of_getElem? (i := 1) rfl)) (fun _ h9 => h9) rfl (by decide +kernel) rfl rfl (Nat.le_of_ble_eq_true rfl) dX5_best_10 (fun H locs hP hD hS => ?_)
    have hP : va_P D vwCl (MW a cI z (nI ns) zh (nI nl) tx (nI 1) pa rd nu pt wy za) H := hP
    have hD : va_D (kA w0) (MW a cI z (nI ns) zh (nI nl) tx (nI 1) pa rd nu pt wy za) := hD
    refine lv_aload_n hx hb dX5_best_13 rfl (lv_at hl 0 rfl) ?_
    refine va_get (D := D) (ci := 5) (v := .int (nI 1)) (C := RX5) (T := TX5) (N := 12) hx hb hts iX5_best_5 hown hK hP 0 rfl rfl 5 (by decide) (hts (.fieldLink RX5 25 "HallSightsModel" "thrown" "I") (List.mem_of_getElem? (i := 1) rfl)) (fun _ h9 => h9) rfl dX5_best_14 ?_
    refine kx_if_le (tgt := 24) hx hb (by omega) dX5_best_17 (by decide) (fun c => absurd c (by omega)) (fun c_17_7 => ?_)
    refine lv_iconst (v := nI 0) hx hb dX5_best_20 (by decide) ?_
    refine lv_goto (tgt := 29) hx hb dX5_best_21 (by decide) ?_
    have e_8 : (nI 0 : Int32) = (if (0 : Int32) ≤ pl then bestI z (layF z wy) pl else nI 0) := by first | rfl | omega | (simp [Int32.not_lt, Int32.not_le, c_2_1, Int32.not_le.mp c_2_1]; done) | (simp [Int32.not_lt, Int32.not_le, c_2_1, Int32.not_le.mp c_2_1]; omega) | (revert c_2_1; simp +contextual [Int32.not_lt, Int32.not_le]; done) | (revert c_2_1; simp +contextual [Int32.not_lt, Int32.not_le]; omega)
    have ec_th_9 : ((nI 1) : Int32) = (nI (if (0 : Int32) ≤ pl then 0 else 1)) := by first | rfl | omega | (simp [Int32.not_lt, Int32.not_le, c_2_1, Int32.not_le.mp c_2_1]; done) | (simp [Int32.not_lt, Int32.not_le, c_2_1, Int32.not_le.mp c_2_1]; omega) | (revert c_2_1; simp +contextual [Int32.not_lt, Int32.not_le]; done) | (revert c_2_1; simp +contextual [Int32.not_lt, Int32.not_le]; omega)
    have ec_wy_10 : (wy : ZZ) = (if (0 : Int32) ≤ pl then layF z wy else wy) := by first | rfl | omega | (simp [Int32.not_lt, Int32.not_le, c_2_1, Int32.not_le.mp c_2_1]; done) | (simp [Int32.not_lt, Int32.not_le, c_2_1, Int32.not_le.mp c_2_1]; omega) | (revert c_2_1; simp +contextual [Int32.not_lt, Int32.not_le]; done) | (revert c_2_1; simp +contextual [Int32.not_lt, Int32.not_le]; omega)
    have ew_11 : (MW a cI z (nI ns) zh (nI nl) tx (nI 1) pa rd nu pt wy za : va_W) = (MW a cI z (nI ns) zh (nI nl) tx (nI (if (0 : Int32) ≤ pl then 0 else 1)) pa rd nu pt (if (0 : Int32) ≤ pl then layF z wy else wy) za) := mw_c rfl rfl rfl rfl rfl ec_th_9 rfl rfl rfl rfl ec_wy_10 rfl
    rw [ew_11] at hP hD
    subst hw0
    exact kq_iret hx hb hrt hlocks e_8 hP hD hS dX5_best_29
set_option maxRecDepth 20000 in
theorem iX5_whoBlocks_5 : ∀ w ∈ wsX50, w ∈ wsX5_whoBlocks := by decide +kernel
set_option maxHeartbeats 4000000 in
set_option maxRecDepth 100000 in
theorem c_X5_whoBlocks (l : Launch) (D : va_G) (cI cC cH cL : ClassId) (a : Nat → Nat) (z zh tx pa wy : ZZ) (ns nl : Nat) (th rd nu pt : Int32) (za : Int64) (ro : Int32) (se : Int32) (hw : WF z) : Met l yX5_whoBlocks wsX5_whoBlocks ({ frames := 4, cells := 0, slots := 0, locals := 96 }) (kw [.ref (a 0), .int ro, .int se] D (MW a cI z (nI ns) zh (nI nl) tx th pa rd nu pt wy za) (kT cI cC cH cL)) (kq D (MW a cI z (nI ns) zh (nI nl) tx th pa rd nu pt wy za) (MW a cI z (nI ns) zh (nI nl) tx (nI (tSeat z ro se)) pa rd nu pt wy za) (.returned (some (.int (if tSeat z ro se = 0 then blockerI z (cl ro) (cl se) else nI 0))))) 0 0 (kA (MW a cI z (nI ns) zh (nI nl) tx th pa rd nu pt wy za)) := by
  refine Met.ofW (cc := cX5_whoBlocks) (maxL := 3) (ret := (some .int)) (by decide) rfl ?_
  intro p e s m args below meth c s₁ B hml hv
  obtain ⟨rfl, hP, hK, hD0⟩ := hv
  have hx := B.exec
  have hb := B.bytes
  have hrt := B.returns
  have hts := atoms_spec (ws := wsX5_whoBlocks) B.pre
  have hown : s.vm.findClass RX5 = some m.cls := findClass_of_methodNamed B.named
  have hlocks := B.notSynchronized
  have hl := lv_entry ([.ref (a 0), .int ro, .int se]) (n := 3) (Nat.le_of_ble_eq_true rfl)
  rw [lg_entry_eq]
  generalize (lg_sl ([.ref (a 0), .int ro, .int se]) ++ List.replicate (3 - (lg_sl ([.ref (a 0), .int ro, .int se])).length) Slot.unset).toArray = ls at hl ⊢
  have hl : lv_has ls 3 [(0, .ref (a 0)), (1, .int ro), (2, .int se)] := hl
  have hD := kA_self hD0
  obtain ⟨w0, hw0⟩ : ∃ w : va_W, w = MW a cI z (nI ns) zh (nI nl) tx th pa rd nu pt wy za := ⟨_, rfl⟩
  have hD : va_D (kA w0) (MW a cI z (nI ns) zh (nI nl) tx th pa rd nu pt wy za) := by rw [hw0]; exact hD
  have hS : va_S (kA w0) s.heap s.heap [] := va_S.rf
  rw [show kA (MW a cI z (nI ns) zh (nI nl) tx th pa rd nu pt wy za) = kA w0 from by rw [hw0], show kq D (MW a cI z (nI ns) zh (nI nl) tx th pa rd nu pt wy za) = kq D w0 from by rw [hw0]]
  have hP : va_P D vwCl (MW a cI z (nI ns) zh (nI nl) tx th pa rd nu pt wy za) s.heap := hP
  have hR10 := wf_R10 hw
  have hC4 := wf_C4 hw
  refine lv_aload_n hx hb dX5_whoBlocks_0 rfl (lv_at hl 0 rfl) ?_
  refine lv_aload_n hx hb dX5_whoBlocks_1 rfl (lv_at hl 0 rfl) ?_
  refine lv_iload_n hx hb dX5_whoBlocks_2 rfl (lv_at hl 1 rfl) ?_
  refine lv_iload_n hx hb dX5_whoBlocks_3 rfl (lv_at hl 2 rfl) ?_
  refine kr_V (As := [.int ro, .int se]) (rest := [.ref (a 0)]) (C := RX5) (own := RX5) ⟨hx, hb, hml, hown, hts⟩ (c_X5_isSeat l D cI cC cH cL a z zh tx pa wy (nI ns) (nI nl) th rd nu pt za ro se (by first | assumption | omega)) (cwV 2 hts gX5_whoBlocks_X5_isSeat rfl rfl rfl k_X5_isSeat ⟨Nat.le_of_ble_eq_true rfl, Nat.le_of_ble_eq_true rfl⟩) hP hK (va_recv (q := (RX5, TX5, 12)) hK hP (ci := 5) (q0 := 0) rfl rfl) rfl hl.1 rfl (Nat.le_of_ble_eq_true rfl) dX5_whoBlocks_4 ⟨Nat.le_of_ble_eq_true rfl, Nat.le_of_ble_eq_true rfl⟩ ?_
  refine kx_if_eqb (tgt := 14) hx hb dX5_whoBlocks_7 (by decide) (fun c_7_0 => ?_) (fun c_7_1 => ?_)
  · refine lv_iconst (v := nI 1) hx hb dX5_whoBlocks_14 (by decide) ?_
    refine va_put (D := D) (ci := 5) (v := .int (nI 1)) (ty := .int) (C := RX5) (T := TX5) (N := 12) hx hb hts iX5_whoBlocks_5 tyX5 tyX5_ok nmX5 hown hK hP hD hS 0 rfl rfl 5 (by decide) (hts (.fieldLink RX5 25 "HallSightsModel" "thrown" "I") (List.mem_of_getElem? (i := 1) rfl)) (fun _ h9 => h9) rfl (by decide +kernel) rfl rfl (Nat.le_of_ble_eq_true rfl) dX5_whoBlocks_15 (fun H locs hP hD hS => ?_)
    have hP : va_P D vwCl (MW a cI z (nI ns) zh (nI nl) tx (nI 1) pa rd nu pt wy za) H := hP
    have hD : va_D (kA w0) (MW a cI z (nI ns) zh (nI nl) tx (nI 1) pa rd nu pt wy za) := hD
    refine lv_aload_n hx hb dX5_whoBlocks_18 rfl (lv_at hl 0 rfl) ?_
    refine va_get (D := D) (ci := 5) (v := .int (nI 1)) (C := RX5) (T := TX5) (N := 12) hx hb hts iX5_whoBlocks_5 hown hK hP 0 rfl rfl 5 (by decide) (hts (.fieldLink RX5 25 "HallSightsModel" "thrown" "I") (List.mem_of_getElem? (i := 1) rfl)) (fun _ h9 => h9) rfl dX5_whoBlocks_19 ?_
    refine kx_if_le (tgt := 29) hx hb (by omega) dX5_whoBlocks_22 (by decide) (fun c => absurd c (by omega)) (fun c_22_2 => ?_)
    refine lv_iconst (v := nI 0) hx hb dX5_whoBlocks_25 (by decide) ?_
    refine lv_goto (tgt := 35) hx hb dX5_whoBlocks_26 (by decide) ?_
    have e_3 : (nI 0 : Int32) = (if tSeat z ro se = 0 then blockerI z (cl ro) (cl se) else nI 0) := by first | rfl | omega | (simp [tSeat, Int32.not_lt, Int32.not_le, c_7_0]; done) | (simp [tSeat, Int32.not_lt, Int32.not_le, c_7_0]; omega) | (revert c_7_0; simp +contextual [tSeat, Int32.not_lt, Int32.not_le]; done) | (revert c_7_0; simp +contextual [tSeat, Int32.not_lt, Int32.not_le]; omega)
    have ec_th_4 : ((nI 1) : Int32) = (nI (tSeat z ro se)) := by first | rfl | omega | (simp [tSeat, Int32.not_lt, Int32.not_le, c_7_0]; done) | (simp [tSeat, Int32.not_lt, Int32.not_le, c_7_0]; omega) | (revert c_7_0; simp +contextual [tSeat, Int32.not_lt, Int32.not_le]; done) | (revert c_7_0; simp +contextual [tSeat, Int32.not_lt, Int32.not_le]; omega)
    have ew_5 : (MW a cI z (nI ns) zh (nI nl) tx (nI 1) pa rd nu pt wy za : va_W) = (MW a cI z (nI ns) zh (nI nl) tx (nI (tSeat z ro se)) pa rd nu pt wy za) := mw_c rfl rfl rfl rfl rfl ec_th_4 rfl rfl rfl rfl rfl rfl
    rw [ew_5] at hP hD
    subst hw0
    exact kq_iret hx hb hrt hlocks e_3 hP hD hS dX5_whoBlocks_35
  · obtain ⟨r0, s0, hr0, hs0, rfl, rfl⟩ := isSeat_out hw c_7_1
    have hS0 := wf_S12 hw hr0
    have hc_r0 : cl (nI r0) = r0 := cl_nI (show r0 < 2 ^ 31 by omega)
    have hc_s0 : cl (nI s0) = s0 := cl_nI (show s0 < 2 ^ 31 by omega)
    refine lv_iconst (v := nI 0) hx hb dX5_whoBlocks_10 (by decide) ?_
    refine lv_goto (tgt := 15) hx hb dX5_whoBlocks_11 (by decide) ?_
    refine va_put (D := D) (ci := 5) (v := .int (nI 0)) (ty := .int) (C := RX5) (T := TX5) (N := 12) hx hb hts iX5_whoBlocks_5 tyX5 tyX5_ok nmX5 hown hK hP hD hS 0 rfl rfl 5 (by decide) (hts (.fieldLink RX5 25 "HallSightsModel" "thrown" "I") (List.mem_of_getElem? (i := 1) rfl)) (fun _ h9 => h9) rfl (by decide +kernel) rfl rfl (Nat.le_of_ble_eq_true rfl) dX5_whoBlocks_15 (fun H locs hP hD hS => ?_)
    have hP : va_P D vwCl (MW a cI z (nI ns) zh (nI nl) tx (nI 0) pa rd nu pt wy za) H := hP
    have hD : va_D (kA w0) (MW a cI z (nI ns) zh (nI nl) tx (nI 0) pa rd nu pt wy za) := hD
    refine lv_aload_n hx hb dX5_whoBlocks_18 rfl (lv_at hl 0 rfl) ?_
    refine va_get (D := D) (ci := 5) (v := .int (nI 0)) (C := RX5) (T := TX5) (N := 12) hx hb hts iX5_whoBlocks_5 hown hK hP 0 rfl rfl 5 (by decide) (hts (.fieldLink RX5 25 "HallSightsModel" "thrown" "I") (List.mem_of_getElem? (i := 1) rfl)) (fun _ h9 => h9) rfl dX5_whoBlocks_19 ?_
    refine kx_if_le (tgt := 29) hx hb (by omega) dX5_whoBlocks_22 (by decide) (fun c_22_6 => ?_) (fun c => absurd c (by omega))
    refine lv_aload_n hx hb dX5_whoBlocks_29 rfl (lv_at hl 0 rfl) ?_
    refine lv_iload_n hx hb dX5_whoBlocks_30 rfl (lv_at hl 1 rfl) ?_
    refine lv_iload_n hx hb dX5_whoBlocks_31 rfl (lv_at hl 2 rfl) ?_
    refine kr_V (As := [.int (nI r0), .int (nI s0)]) (rest := []) (C := RX5) (own := RX5) ⟨hx, hb, hml, hown, hts⟩ (c_X5_blockerOf l D cI cC cH cL a z zh tx pa wy (nI ns) (nI nl) (nI 0) rd nu pt za r0 s0 (by first | assumption | omega) (by first | assumption | omega)) (cwV 2 hts gX5_whoBlocks_X5_blockerOf rfl rfl rfl k_X5_blockerOf ⟨Nat.le_of_ble_eq_true rfl, Nat.le_of_ble_eq_true rfl⟩) hP hK (va_recv (q := (RX5, TX5, 12)) hK hP (ci := 5) (q0 := 0) rfl rfl) rfl hl.1 rfl (Nat.le_of_ble_eq_true rfl) dX5_whoBlocks_32 ⟨Nat.le_of_ble_eq_true rfl, Nat.le_of_ble_eq_true rfl⟩ ?_
    have e_7 : (blockerI z r0 s0 : Int32) = (if tSeat z (nI r0) (nI s0) = 0 then blockerI z (cl (nI r0)) (cl (nI s0)) else nI 0) := by first | rfl | omega | (simp [tSeat, Int32.not_lt, Int32.not_le, c_7_1, hc_r0, hc_s0]; done) | (simp [tSeat, Int32.not_lt, Int32.not_le, c_7_1, hc_r0, hc_s0]; omega) | (revert c_7_1 hc_r0 hc_s0; simp +contextual [tSeat, Int32.not_lt, Int32.not_le]; done) | (revert c_7_1 hc_r0 hc_s0; simp +contextual [tSeat, Int32.not_lt, Int32.not_le]; omega)
    have ec_th_8 : ((nI 0) : Int32) = (nI (tSeat z (nI r0) (nI s0))) := by first | rfl | omega | (simp [tSeat, Int32.not_lt, Int32.not_le, c_7_1, hc_r0, hc_s0]; done) | (simp [tSeat, Int32.not_lt, Int32.not_le, c_7_1, hc_r0, hc_s0]; omega) | (revert c_7_1 hc_r0 hc_s0; simp +contextual [tSeat, Int32.not_lt, Int32.not_le]; done) | (revert c_7_1 hc_r0 hc_s0; simp +contextual [tSeat, Int32.not_lt, Int32.not_le]; omega)
    have ew_9 : (MW a cI z (nI ns) zh (nI nl) tx (nI 0) pa rd nu pt wy za : va_W) = (MW a cI z (nI ns) zh (nI nl) tx (nI (tSeat z (nI r0) (nI s0))) pa rd nu pt wy za) := mw_c rfl rfl rfl rfl rfl ec_th_8 rfl rfl rfl rfl rfl rfl
    rw [ew_9] at hP hD
    subst hw0
    exact kq_iret hx hb hrt hlocks e_7 hP hD hS dX5_whoBlocks_35
set_option maxRecDepth 20000 in
theorem iX5_count_5 : ∀ w ∈ wsX50, w ∈ wsX5_count := by decide +kernel
set_option maxHeartbeats 4000000 in
set_option maxRecDepth 100000 in
theorem c_X5_count (l : Launch) (D : va_G) (cI cC cH cL : ClassId) (a : Nat → Nat) (z zh tx pa wy : ZZ) (ns nl : Nat) (th rd nu pt : Int32) (za : Int64) (wh : Int32) (hw : WF z) : Met l yX5_count wsX5_count ({ frames := 9, cells := 0, slots := 0, locals := 208 }) (kw [.ref (a 0), .int wh] D (MW a cI z (nI ns) zh (nI nl) tx th pa rd nu pt wy za) (kT cI cC cH cL)) (kq D (MW a cI z (nI ns) zh (nI nl) tx th pa rd nu pt wy za) (MW a cI z (nI ns) zh (nI nl) tx (nI (if wthn wh (nI 0) (nI 8) = true then 0 else 1)) pa rd nu pt wy za) (.returned (some (.int (if wthn wh (nI 0) (nI 8) = true then countI z ns (cl wh) else nI 0))))) 0 0 (kA (MW a cI z (nI ns) zh (nI nl) tx th pa rd nu pt wy za)) := by
  refine Met.ofW (cc := cX5_count) (maxL := 2) (ret := (some .int)) (by decide) rfl ?_
  intro p e s m args below meth c s₁ B hml hv
  obtain ⟨rfl, hP, hK, hD0⟩ := hv
  have hx := B.exec
  have hb := B.bytes
  have hrt := B.returns
  have hts := atoms_spec (ws := wsX5_count) B.pre
  have hown : s.vm.findClass RX5 = some m.cls := findClass_of_methodNamed B.named
  have hlocks := B.notSynchronized
  have hl := lv_entry ([.ref (a 0), .int wh]) (n := 2) (Nat.le_of_ble_eq_true rfl)
  rw [lg_entry_eq]
  generalize (lg_sl ([.ref (a 0), .int wh]) ++ List.replicate (2 - (lg_sl ([.ref (a 0), .int wh])).length) Slot.unset).toArray = ls at hl ⊢
  have hl : lv_has ls 2 [(0, .ref (a 0)), (1, .int wh)] := hl
  have hD := kA_self hD0
  obtain ⟨w0, hw0⟩ : ∃ w : va_W, w = MW a cI z (nI ns) zh (nI nl) tx th pa rd nu pt wy za := ⟨_, rfl⟩
  have hD : va_D (kA w0) (MW a cI z (nI ns) zh (nI nl) tx th pa rd nu pt wy za) := by rw [hw0]; exact hD
  have hS : va_S (kA w0) s.heap s.heap [] := va_S.rf
  rw [show kA (MW a cI z (nI ns) zh (nI nl) tx th pa rd nu pt wy za) = kA w0 from by rw [hw0], show kq D (MW a cI z (nI ns) zh (nI nl) tx th pa rd nu pt wy za) = kq D w0 from by rw [hw0]]
  have hP : va_P D vwCl (MW a cI z (nI ns) zh (nI nl) tx th pa rd nu pt wy za) s.heap := hP
  have hR10 := wf_R10 hw
  have hC4 := wf_C4 hw
  refine lv_aload_n hx hb dX5_count_0 rfl (lv_at hl 0 rfl) ?_
  refine lv_iload_n hx hb dX5_count_1 rfl (lv_at hl 1 rfl) ?_
  refine lv_iconst (v := nI 0) hx hb dX5_count_2 (by decide) ?_
  refine lv_bipush (v := nI 8) hx hb dX5_count_3 (by decide) ?_
  refine kr_S (As := [.int wh, .int (nI 0), .int (nI 8)]) (rest := [.ref (a 0)]) (own := RX5) ⟨hx, hb, hml, hown, hts⟩ (c_X5_within l D cI cC cH cL  wh (nI 0) (nI 8) ) (va_cwS 3 hts gX5_count_X5_within rfl rfl rfl k_X5_withinS ⟨Nat.le_of_ble_eq_true rfl, Nat.le_of_ble_eq_true rfl⟩) (hP.sub (ws' := []) [] rfl) hK rfl hl.1 rfl (Nat.le_of_ble_eq_true rfl) dX5_count_5 ⟨Nat.le_of_ble_eq_true rfl, Nat.le_of_ble_eq_true rfl⟩ ?_
  refine kx_if_eqb (tgt := 15) hx hb dX5_count_8 (by decide) (fun c_8_0 => ?_) (fun c_8_1 => ?_)
  · refine lv_iconst (v := nI 1) hx hb dX5_count_15 (by decide) ?_
    refine va_put (D := D) (ci := 5) (v := .int (nI 1)) (ty := .int) (C := RX5) (T := TX5) (N := 12) hx hb hts iX5_count_5 tyX5 tyX5_ok nmX5 hown hK hP hD hS 0 rfl rfl 5 (by decide) (hts (.fieldLink RX5 25 "HallSightsModel" "thrown" "I") (List.mem_of_getElem? (i := 1) rfl)) (fun _ h9 => h9) rfl (by decide +kernel) rfl rfl (Nat.le_of_ble_eq_true rfl) dX5_count_16 (fun H locs hP hD hS => ?_)
    have hP : va_P D vwCl (MW a cI z (nI ns) zh (nI nl) tx (nI 1) pa rd nu pt wy za) H := hP
    have hD : va_D (kA w0) (MW a cI z (nI ns) zh (nI nl) tx (nI 1) pa rd nu pt wy za) := hD
    refine lv_aload_n hx hb dX5_count_19 rfl (lv_at hl 0 rfl) ?_
    refine va_get (D := D) (ci := 5) (v := .int (nI 1)) (C := RX5) (T := TX5) (N := 12) hx hb hts iX5_count_5 hown hK hP 0 rfl rfl 5 (by decide) (hts (.fieldLink RX5 25 "HallSightsModel" "thrown" "I") (List.mem_of_getElem? (i := 1) rfl)) (fun _ h9 => h9) rfl dX5_count_20 ?_
    refine kx_if_le (tgt := 30) hx hb (by omega) dX5_count_23 (by decide) (fun c => absurd c (by omega)) (fun c_23_2 => ?_)
    refine lv_iconst (v := nI 0) hx hb dX5_count_26 (by decide) ?_
    refine lv_goto (tgt := 35) hx hb dX5_count_27 (by decide) ?_
    have e_3 : (nI 0 : Int32) = (if wthn wh (nI 0) (nI 8) = true then countI z ns (cl wh) else nI 0) := by first | rfl | omega | (simp [Int32.not_lt, Int32.not_le, c_8_0]; done) | (simp [Int32.not_lt, Int32.not_le, c_8_0]; omega) | (revert c_8_0; simp +contextual [Int32.not_lt, Int32.not_le]; done) | (revert c_8_0; simp +contextual [Int32.not_lt, Int32.not_le]; omega)
    have ec_th_4 : ((nI 1) : Int32) = (nI (if wthn wh (nI 0) (nI 8) = true then 0 else 1)) := by first | rfl | omega | (simp [Int32.not_lt, Int32.not_le, c_8_0]; done) | (simp [Int32.not_lt, Int32.not_le, c_8_0]; omega) | (revert c_8_0; simp +contextual [Int32.not_lt, Int32.not_le]; done) | (revert c_8_0; simp +contextual [Int32.not_lt, Int32.not_le]; omega)
    have ew_5 : (MW a cI z (nI ns) zh (nI nl) tx (nI 1) pa rd nu pt wy za : va_W) = (MW a cI z (nI ns) zh (nI nl) tx (nI (if wthn wh (nI 0) (nI 8) = true then 0 else 1)) pa rd nu pt wy za) := mw_c rfl rfl rfl rfl rfl ec_th_4 rfl rfl rfl rfl rfl rfl
    rw [ew_5] at hP hD
    subst hw0
    exact kq_iret hx hb hrt hlocks e_3 hP hD hS dX5_count_35
  · obtain ⟨wq, hwq, rfl⟩ := wthn9_out c_8_1
    have hc_wq : cl (nI wq) = wq := cl_nI (show wq < 2 ^ 31 by omega)
    refine lv_iconst (v := nI 0) hx hb dX5_count_11 (by decide) ?_
    refine lv_goto (tgt := 16) hx hb dX5_count_12 (by decide) ?_
    refine va_put (D := D) (ci := 5) (v := .int (nI 0)) (ty := .int) (C := RX5) (T := TX5) (N := 12) hx hb hts iX5_count_5 tyX5 tyX5_ok nmX5 hown hK hP hD hS 0 rfl rfl 5 (by decide) (hts (.fieldLink RX5 25 "HallSightsModel" "thrown" "I") (List.mem_of_getElem? (i := 1) rfl)) (fun _ h9 => h9) rfl (by decide +kernel) rfl rfl (Nat.le_of_ble_eq_true rfl) dX5_count_16 (fun H locs hP hD hS => ?_)
    have hP : va_P D vwCl (MW a cI z (nI ns) zh (nI nl) tx (nI 0) pa rd nu pt wy za) H := hP
    have hD : va_D (kA w0) (MW a cI z (nI ns) zh (nI nl) tx (nI 0) pa rd nu pt wy za) := hD
    refine lv_aload_n hx hb dX5_count_19 rfl (lv_at hl 0 rfl) ?_
    refine va_get (D := D) (ci := 5) (v := .int (nI 0)) (C := RX5) (T := TX5) (N := 12) hx hb hts iX5_count_5 hown hK hP 0 rfl rfl 5 (by decide) (hts (.fieldLink RX5 25 "HallSightsModel" "thrown" "I") (List.mem_of_getElem? (i := 1) rfl)) (fun _ h9 => h9) rfl dX5_count_20 ?_
    refine kx_if_le (tgt := 30) hx hb (by omega) dX5_count_23 (by decide) (fun c_23_6 => ?_) (fun c => absurd c (by omega))
    refine lv_aload_n hx hb dX5_count_30 rfl (lv_at hl 0 rfl) ?_
    refine lv_iload_n hx hb dX5_count_31 rfl (lv_at hl 1 rfl) ?_
    refine kr_V (As := [.int (nI wq)]) (rest := []) (C := RX5) (own := RX5) ⟨hx, hb, hml, hown, hts⟩ (c_X5_counted l D cI cC cH cL a z zh tx pa wy ns nl (nI 0) rd nu pt za wq (by first | assumption | omega) (by first | assumption | omega)) (cwV 1 hts gX5_count_X5_counted rfl rfl rfl k_X5_counted ⟨Nat.le_of_ble_eq_true rfl, Nat.le_of_ble_eq_true rfl⟩) hP hK (va_recv (q := (RX5, TX5, 12)) hK hP (ci := 5) (q0 := 0) rfl rfl) rfl hl.1 rfl (Nat.le_of_ble_eq_true rfl) dX5_count_32 ⟨Nat.le_of_ble_eq_true rfl, Nat.le_of_ble_eq_true rfl⟩ ?_
    have e_7 : (countI z ns wq : Int32) = (if wthn (nI wq) (nI 0) (nI 8) = true then countI z ns (cl (nI wq)) else nI 0) := by first | rfl | omega | (simp [Int32.not_lt, Int32.not_le, c_8_1, hc_wq]; done) | (simp [Int32.not_lt, Int32.not_le, c_8_1, hc_wq]; omega) | (revert c_8_1 hc_wq; simp +contextual [Int32.not_lt, Int32.not_le]; done) | (revert c_8_1 hc_wq; simp +contextual [Int32.not_lt, Int32.not_le]; omega)
    have ec_th_8 : ((nI 0) : Int32) = (nI (if wthn (nI wq) (nI 0) (nI 8) = true then 0 else 1)) := by first | rfl | omega | (simp [Int32.not_lt, Int32.not_le, c_8_1, hc_wq]; done) | (simp [Int32.not_lt, Int32.not_le, c_8_1, hc_wq]; omega) | (revert c_8_1 hc_wq; simp +contextual [Int32.not_lt, Int32.not_le]; done) | (revert c_8_1 hc_wq; simp +contextual [Int32.not_lt, Int32.not_le]; omega)
    have ew_9 : (MW a cI z (nI ns) zh (nI nl) tx (nI 0) pa rd nu pt wy za : va_W) = (MW a cI z (nI ns) zh (nI nl) tx (nI (if wthn (nI wq) (nI 0) (nI 8) = true then 0 else 1)) pa rd nu pt wy za) := mw_c rfl rfl rfl rfl rfl ec_th_8 rfl rfl rfl rfl rfl rfl
    rw [ew_9] at hP hD
    subst hw0
    exact kq_iret hx hb hrt hlocks e_7 hP hD hS dX5_count_35
set_option maxRecDepth 20000 in
theorem iX5_setting_5 : ∀ w ∈ wsX50, w ∈ wsX5_setting := by decide +kernel
set_option maxHeartbeats 4000000 in
set_option maxRecDepth 100000 in
theorem c_X5_setting (l : Launch) (D : va_G) (cI cC cH cL : ClassId) (a : Nat → Nat) (z zh tx pa wy : ZZ) (ns nl : Nat) (th rd nu pt : Int32) (za : Int64) (st0 : Int32)  : Met l yX5_setting wsX5_setting ({ frames := 2, cells := 0, slots := 0, locals := 42 }) (kw [.ref (a 0), .int st0] D (MW a cI z (nI ns) zh (nI nl) tx th pa rd nu pt wy za) (kT cI cC cH cL)) (kq D (MW a cI z (nI ns) zh (nI nl) tx th pa rd nu pt wy za) (MW a cI z (nI ns) zh (nI nl) tx (nI (if wthn st0 (nI 0) (nI 2) = true then 0 else 1)) pa rd nu pt wy za) (.returned (some (.int (if wthn st0 (nI 0) (nI 2) = true then z (cl st0) else nI 0))))) 0 0 (kA (MW a cI z (nI ns) zh (nI nl) tx th pa rd nu pt wy za)) := by
  refine Met.ofW (cc := cX5_setting) (maxL := 2) (ret := (some .int)) (by decide) rfl ?_
  intro p e s m args below meth c s₁ B hml hv
  obtain ⟨rfl, hP, hK, hD0⟩ := hv
  have hx := B.exec
  have hb := B.bytes
  have hrt := B.returns
  have hts := atoms_spec (ws := wsX5_setting) B.pre
  have hown : s.vm.findClass RX5 = some m.cls := findClass_of_methodNamed B.named
  have hlocks := B.notSynchronized
  have hl := lv_entry ([.ref (a 0), .int st0]) (n := 2) (Nat.le_of_ble_eq_true rfl)
  rw [lg_entry_eq]
  generalize (lg_sl ([.ref (a 0), .int st0]) ++ List.replicate (2 - (lg_sl ([.ref (a 0), .int st0])).length) Slot.unset).toArray = ls at hl ⊢
  have hl : lv_has ls 2 [(0, .ref (a 0)), (1, .int st0)] := hl
  have hD := kA_self hD0
  obtain ⟨w0, hw0⟩ : ∃ w : va_W, w = MW a cI z (nI ns) zh (nI nl) tx th pa rd nu pt wy za := ⟨_, rfl⟩
  have hD : va_D (kA w0) (MW a cI z (nI ns) zh (nI nl) tx th pa rd nu pt wy za) := by rw [hw0]; exact hD
  have hS : va_S (kA w0) s.heap s.heap [] := va_S.rf
  rw [show kA (MW a cI z (nI ns) zh (nI nl) tx th pa rd nu pt wy za) = kA w0 from by rw [hw0], show kq D (MW a cI z (nI ns) zh (nI nl) tx th pa rd nu pt wy za) = kq D w0 from by rw [hw0]]
  have hP : va_P D vwCl (MW a cI z (nI ns) zh (nI nl) tx th pa rd nu pt wy za) s.heap := hP
  refine lv_aload_n hx hb dX5_setting_0 rfl (lv_at hl 0 rfl) ?_
  refine lv_iload_n hx hb dX5_setting_1 rfl (lv_at hl 1 rfl) ?_
  refine kr_S (As := [.int st0]) (rest := [.ref (a 0)]) (own := RX5) ⟨hx, hb, hml, hown, hts⟩ (c_X5_isSetting l D cI cC cH cL  st0 ) (va_cwS 1 hts gX5_setting_X5_isSetting rfl rfl rfl k_X5_isSettingS ⟨Nat.le_of_ble_eq_true rfl, Nat.le_of_ble_eq_true rfl⟩) (hP.sub (ws' := []) [] rfl) hK rfl hl.1 rfl (Nat.le_of_ble_eq_true rfl) dX5_setting_2 ⟨Nat.le_of_ble_eq_true rfl, Nat.le_of_ble_eq_true rfl⟩ ?_
  refine kx_if_eqb (tgt := 12) hx hb dX5_setting_5 (by decide) (fun c_5_0 => ?_) (fun c_5_1 => ?_)
  · refine lv_iconst (v := nI 1) hx hb dX5_setting_12 (by decide) ?_
    refine va_put (D := D) (ci := 5) (v := .int (nI 1)) (ty := .int) (C := RX5) (T := TX5) (N := 12) hx hb hts iX5_setting_5 tyX5 tyX5_ok nmX5 hown hK hP hD hS 0 rfl rfl 5 (by decide) (hts (.fieldLink RX5 25 "HallSightsModel" "thrown" "I") (List.mem_of_getElem? (i := 1) rfl)) (fun _ h9 => h9) rfl (by decide +kernel) rfl rfl (Nat.le_of_ble_eq_true rfl) dX5_setting_13 (fun H locs hP hD hS => ?_)
    have hP : va_P D vwCl (MW a cI z (nI ns) zh (nI nl) tx (nI 1) pa rd nu pt wy za) H := hP
    have hD : va_D (kA w0) (MW a cI z (nI ns) zh (nI nl) tx (nI 1) pa rd nu pt wy za) := hD
    refine lv_aload_n hx hb dX5_setting_16 rfl (lv_at hl 0 rfl) ?_
    refine va_get (D := D) (ci := 5) (v := .int (nI 1)) (C := RX5) (T := TX5) (N := 12) hx hb hts iX5_setting_5 hown hK hP 0 rfl rfl 5 (by decide) (hts (.fieldLink RX5 25 "HallSightsModel" "thrown" "I") (List.mem_of_getElem? (i := 1) rfl)) (fun _ h9 => h9) rfl dX5_setting_17 ?_
    refine kx_if_le (tgt := 27) hx hb (by omega) dX5_setting_20 (by decide) (fun c => absurd c (by omega)) (fun c_20_2 => ?_)
    refine lv_iconst (v := nI 0) hx hb dX5_setting_23 (by decide) ?_
    refine lv_goto (tgt := 33) hx hb dX5_setting_24 (by decide) ?_
    have e_3 : (nI 0 : Int32) = (if wthn st0 (nI 0) (nI 2) = true then z (cl st0) else nI 0) := by first | rfl | omega | (simp [Int32.not_lt, Int32.not_le, c_5_0]; done) | (simp [Int32.not_lt, Int32.not_le, c_5_0]; omega) | (revert c_5_0; simp +contextual [Int32.not_lt, Int32.not_le]; done) | (revert c_5_0; simp +contextual [Int32.not_lt, Int32.not_le]; omega)
    have ec_th_4 : ((nI 1) : Int32) = (nI (if wthn st0 (nI 0) (nI 2) = true then 0 else 1)) := by first | rfl | omega | (simp [Int32.not_lt, Int32.not_le, c_5_0]; done) | (simp [Int32.not_lt, Int32.not_le, c_5_0]; omega) | (revert c_5_0; simp +contextual [Int32.not_lt, Int32.not_le]; done) | (revert c_5_0; simp +contextual [Int32.not_lt, Int32.not_le]; omega)
    have ew_5 : (MW a cI z (nI ns) zh (nI nl) tx (nI 1) pa rd nu pt wy za : va_W) = (MW a cI z (nI ns) zh (nI nl) tx (nI (if wthn st0 (nI 0) (nI 2) = true then 0 else 1)) pa rd nu pt wy za) := mw_c rfl rfl rfl rfl rfl ec_th_4 rfl rfl rfl rfl rfl rfl
    rw [ew_5] at hP hD
    subst hw0
    exact kq_iret hx hb hrt hlocks e_3 hP hD hS dX5_setting_33
  · obtain ⟨q0, hq0, rfl⟩ := wthn3_out c_5_1
    have hc_q0 : cl (nI q0) = q0 := cl_nI (show q0 < 2 ^ 31 by omega)
    refine lv_iconst (v := nI 0) hx hb dX5_setting_8 (by decide) ?_
    refine lv_goto (tgt := 13) hx hb dX5_setting_9 (by decide) ?_
    refine va_put (D := D) (ci := 5) (v := .int (nI 0)) (ty := .int) (C := RX5) (T := TX5) (N := 12) hx hb hts iX5_setting_5 tyX5 tyX5_ok nmX5 hown hK hP hD hS 0 rfl rfl 5 (by decide) (hts (.fieldLink RX5 25 "HallSightsModel" "thrown" "I") (List.mem_of_getElem? (i := 1) rfl)) (fun _ h9 => h9) rfl (by decide +kernel) rfl rfl (Nat.le_of_ble_eq_true rfl) dX5_setting_13 (fun H locs hP hD hS => ?_)
    have hP : va_P D vwCl (MW a cI z (nI ns) zh (nI nl) tx (nI 0) pa rd nu pt wy za) H := hP
    have hD : va_D (kA w0) (MW a cI z (nI ns) zh (nI nl) tx (nI 0) pa rd nu pt wy za) := hD
    refine lv_aload_n hx hb dX5_setting_16 rfl (lv_at hl 0 rfl) ?_
    refine va_get (D := D) (ci := 5) (v := .int (nI 0)) (C := RX5) (T := TX5) (N := 12) hx hb hts iX5_setting_5 hown hK hP 0 rfl rfl 5 (by decide) (hts (.fieldLink RX5 25 "HallSightsModel" "thrown" "I") (List.mem_of_getElem? (i := 1) rfl)) (fun _ h9 => h9) rfl dX5_setting_17 ?_
    refine kx_if_le (tgt := 27) hx hb (by omega) dX5_setting_20 (by decide) (fun c_20_6 => ?_) (fun c => absurd c (by omega))
    refine lv_aload_n hx hb dX5_setting_27 rfl (lv_at hl 0 rfl) ?_
    refine va_get (D := D) (ci := 5) (v := .ref (a 1)) (C := RX5) (T := TX5) (N := 12) hx hb hts iX5_setting_5 hown hK hP 0 rfl rfl 0 (by decide) (hts (.fieldLink RX5 7 "HallSightsModel" "z" "[I") (List.mem_of_getElem? (i := 2) rfl)) (fun _ h9 => h9) rfl dX5_setting_28 ?_
    refine lv_iload_n hx hb dX5_setting_31 rfl (lv_at hl 1 rfl) ?_
    refine kx_iald hx hb hK hP 1 0 rfl rfl (by omega) (by decide) dX5_setting_32 ?_
    have e_7 : (z q0 : Int32) = (if wthn (nI q0) (nI 0) (nI 2) = true then z (cl (nI q0)) else nI 0) := by first | rfl | omega | (simp [Int32.not_lt, Int32.not_le, c_5_1, hc_q0]; done) | (simp [Int32.not_lt, Int32.not_le, c_5_1, hc_q0]; omega) | (revert c_5_1 hc_q0; simp +contextual [Int32.not_lt, Int32.not_le]; done) | (revert c_5_1 hc_q0; simp +contextual [Int32.not_lt, Int32.not_le]; omega)
    have ec_th_8 : ((nI 0) : Int32) = (nI (if wthn (nI q0) (nI 0) (nI 2) = true then 0 else 1)) := by first | rfl | omega | (simp [Int32.not_lt, Int32.not_le, c_5_1, hc_q0]; done) | (simp [Int32.not_lt, Int32.not_le, c_5_1, hc_q0]; omega) | (revert c_5_1 hc_q0; simp +contextual [Int32.not_lt, Int32.not_le]; done) | (revert c_5_1 hc_q0; simp +contextual [Int32.not_lt, Int32.not_le]; omega)
    have ew_9 : (MW a cI z (nI ns) zh (nI nl) tx (nI 0) pa rd nu pt wy za : va_W) = (MW a cI z (nI ns) zh (nI nl) tx (nI (if wthn (nI q0) (nI 0) (nI 2) = true then 0 else 1)) pa rd nu pt wy za) := mw_c rfl rfl rfl rfl rfl ec_th_8 rfl rfl rfl rfl rfl rfl
    rw [ew_9] at hP hD
    subst hw0
    exact kq_iret hx hb hrt hlocks e_7 hP hD hS dX5_setting_33
set_option maxRecDepth 20000 in
theorem iX5_leastHeight_5 : ∀ w ∈ wsX50, w ∈ wsX5_leastHeight := by decide +kernel
set_option maxHeartbeats 4000000 in
set_option maxRecDepth 100000 in
theorem c_X5_leastHeight (l : Launch) (D : va_G) (cI cC cH cL : ClassId) (a : Nat → Nat) (z zh tx pa wy : ZZ) (ns nl : Nat) (th rd nu pt : Int32) (za : Int64) (ro : Int32) (hw : WF z) (hd : WD z) : Met l yX5_leastHeight wsX5_leastHeight ({ frames := 2, cells := 0, slots := 0, locals := 47 }) (kw [.ref (a 0), .int ro] D (MW a cI z (nI ns) zh (nI nl) tx th pa rd nu pt wy za) (kT cI cC cH cL)) (kq D (MW a cI z (nI ns) zh (nI nl) tx th pa rd nu pt wy za) (MW a cI z (nI ns) zh (nI nl) tx (nI (tRow z ro)) pa rd nu pt wy za) (.returned (some (.int (if tRow z ro = 0 then leastForI z (cl ro) else nI 0))))) 0 0 (kA (MW a cI z (nI ns) zh (nI nl) tx th pa rd nu pt wy za)) := by
  refine Met.ofW (cc := cX5_leastHeight) (maxL := 2) (ret := (some .int)) (by decide) rfl ?_
  intro p e s m args below meth c s₁ B hml hv
  obtain ⟨rfl, hP, hK, hD0⟩ := hv
  have hx := B.exec
  have hb := B.bytes
  have hrt := B.returns
  have hts := atoms_spec (ws := wsX5_leastHeight) B.pre
  have hown : s.vm.findClass RX5 = some m.cls := findClass_of_methodNamed B.named
  have hlocks := B.notSynchronized
  have hl := lv_entry ([.ref (a 0), .int ro]) (n := 2) (Nat.le_of_ble_eq_true rfl)
  rw [lg_entry_eq]
  generalize (lg_sl ([.ref (a 0), .int ro]) ++ List.replicate (2 - (lg_sl ([.ref (a 0), .int ro])).length) Slot.unset).toArray = ls at hl ⊢
  have hl : lv_has ls 2 [(0, .ref (a 0)), (1, .int ro)] := hl
  have hD := kA_self hD0
  obtain ⟨w0, hw0⟩ : ∃ w : va_W, w = MW a cI z (nI ns) zh (nI nl) tx th pa rd nu pt wy za := ⟨_, rfl⟩
  have hD : va_D (kA w0) (MW a cI z (nI ns) zh (nI nl) tx th pa rd nu pt wy za) := by rw [hw0]; exact hD
  have hS : va_S (kA w0) s.heap s.heap [] := va_S.rf
  rw [show kA (MW a cI z (nI ns) zh (nI nl) tx th pa rd nu pt wy za) = kA w0 from by rw [hw0], show kq D (MW a cI z (nI ns) zh (nI nl) tx th pa rd nu pt wy za) = kq D w0 from by rw [hw0]]
  have hP : va_P D vwCl (MW a cI z (nI ns) zh (nI nl) tx th pa rd nu pt wy za) s.heap := hP
  have hR10 := wf_R10 hw
  have hC4 := wf_C4 hw
  refine lv_aload_n hx hb dX5_leastHeight_0 rfl (lv_at hl 0 rfl) ?_
  refine lv_aload_n hx hb dX5_leastHeight_1 rfl (lv_at hl 0 rfl) ?_
  refine lv_iload_n hx hb dX5_leastHeight_2 rfl (lv_at hl 1 rfl) ?_
  refine kr_V (As := [.int ro]) (rest := [.ref (a 0)]) (C := RX5) (own := RX5) ⟨hx, hb, hml, hown, hts⟩ (c_X5_isRow l D cI cC cH cL a z zh tx pa wy (nI ns) (nI nl) th rd nu pt za ro (by first | assumption | omega)) (cwV 1 hts gX5_leastHeight_X5_isRow rfl rfl rfl k_X5_isRow ⟨Nat.le_of_ble_eq_true rfl, Nat.le_of_ble_eq_true rfl⟩) hP hK (va_recv (q := (RX5, TX5, 12)) hK hP (ci := 5) (q0 := 0) rfl rfl) rfl hl.1 rfl (Nat.le_of_ble_eq_true rfl) dX5_leastHeight_3 ⟨Nat.le_of_ble_eq_true rfl, Nat.le_of_ble_eq_true rfl⟩ ?_
  refine kx_if_eqb (tgt := 13) hx hb dX5_leastHeight_6 (by decide) (fun c_6_0 => ?_) (fun c_6_1 => ?_)
  · refine lv_iconst (v := nI 1) hx hb dX5_leastHeight_13 (by decide) ?_
    refine va_put (D := D) (ci := 5) (v := .int (nI 1)) (ty := .int) (C := RX5) (T := TX5) (N := 12) hx hb hts iX5_leastHeight_5 tyX5 tyX5_ok nmX5 hown hK hP hD hS 0 rfl rfl 5 (by decide) (hts (.fieldLink RX5 25 "HallSightsModel" "thrown" "I") (List.mem_of_getElem? (i := 1) rfl)) (fun _ h9 => h9) rfl (by decide +kernel) rfl rfl (Nat.le_of_ble_eq_true rfl) dX5_leastHeight_14 (fun H locs hP hD hS => ?_)
    have hP : va_P D vwCl (MW a cI z (nI ns) zh (nI nl) tx (nI 1) pa rd nu pt wy za) H := hP
    have hD : va_D (kA w0) (MW a cI z (nI ns) zh (nI nl) tx (nI 1) pa rd nu pt wy za) := hD
    refine lv_aload_n hx hb dX5_leastHeight_17 rfl (lv_at hl 0 rfl) ?_
    refine va_get (D := D) (ci := 5) (v := .int (nI 1)) (C := RX5) (T := TX5) (N := 12) hx hb hts iX5_leastHeight_5 hown hK hP 0 rfl rfl 5 (by decide) (hts (.fieldLink RX5 25 "HallSightsModel" "thrown" "I") (List.mem_of_getElem? (i := 1) rfl)) (fun _ h9 => h9) rfl dX5_leastHeight_18 ?_
    refine kx_if_le (tgt := 28) hx hb (by omega) dX5_leastHeight_21 (by decide) (fun c => absurd c (by omega)) (fun c_21_2 => ?_)
    refine lv_iconst (v := nI 0) hx hb dX5_leastHeight_24 (by decide) ?_
    refine lv_goto (tgt := 33) hx hb dX5_leastHeight_25 (by decide) ?_
    have e_3 : (nI 0 : Int32) = (if tRow z ro = 0 then leastForI z (cl ro) else nI 0) := by first | rfl | omega | (simp [tRow, Int32.not_lt, Int32.not_le, c_6_0]; done) | (simp [tRow, Int32.not_lt, Int32.not_le, c_6_0]; omega) | (revert c_6_0; simp +contextual [tRow, Int32.not_lt, Int32.not_le]; done) | (revert c_6_0; simp +contextual [tRow, Int32.not_lt, Int32.not_le]; omega)
    have ec_th_4 : ((nI 1) : Int32) = (nI (tRow z ro)) := by first | rfl | omega | (simp [tRow, Int32.not_lt, Int32.not_le, c_6_0]; done) | (simp [tRow, Int32.not_lt, Int32.not_le, c_6_0]; omega) | (revert c_6_0; simp +contextual [tRow, Int32.not_lt, Int32.not_le]; done) | (revert c_6_0; simp +contextual [tRow, Int32.not_lt, Int32.not_le]; omega)
    have ew_5 : (MW a cI z (nI ns) zh (nI nl) tx (nI 1) pa rd nu pt wy za : va_W) = (MW a cI z (nI ns) zh (nI nl) tx (nI (tRow z ro)) pa rd nu pt wy za) := mw_c rfl rfl rfl rfl rfl ec_th_4 rfl rfl rfl rfl rfl rfl
    rw [ew_5] at hP hD
    subst hw0
    exact kq_iret hx hb hrt hlocks e_3 hP hD hS dX5_leastHeight_33
  · obtain ⟨r0, hr0, rfl⟩ := isRow_out hw c_6_1
    have hc_r0 : cl (nI r0) = r0 := cl_nI (show r0 < 2 ^ 31 by omega)
    refine lv_iconst (v := nI 0) hx hb dX5_leastHeight_9 (by decide) ?_
    refine lv_goto (tgt := 14) hx hb dX5_leastHeight_10 (by decide) ?_
    refine va_put (D := D) (ci := 5) (v := .int (nI 0)) (ty := .int) (C := RX5) (T := TX5) (N := 12) hx hb hts iX5_leastHeight_5 tyX5 tyX5_ok nmX5 hown hK hP hD hS 0 rfl rfl 5 (by decide) (hts (.fieldLink RX5 25 "HallSightsModel" "thrown" "I") (List.mem_of_getElem? (i := 1) rfl)) (fun _ h9 => h9) rfl (by decide +kernel) rfl rfl (Nat.le_of_ble_eq_true rfl) dX5_leastHeight_14 (fun H locs hP hD hS => ?_)
    have hP : va_P D vwCl (MW a cI z (nI ns) zh (nI nl) tx (nI 0) pa rd nu pt wy za) H := hP
    have hD : va_D (kA w0) (MW a cI z (nI ns) zh (nI nl) tx (nI 0) pa rd nu pt wy za) := hD
    refine lv_aload_n hx hb dX5_leastHeight_17 rfl (lv_at hl 0 rfl) ?_
    refine va_get (D := D) (ci := 5) (v := .int (nI 0)) (C := RX5) (T := TX5) (N := 12) hx hb hts iX5_leastHeight_5 hown hK hP 0 rfl rfl 5 (by decide) (hts (.fieldLink RX5 25 "HallSightsModel" "thrown" "I") (List.mem_of_getElem? (i := 1) rfl)) (fun _ h9 => h9) rfl dX5_leastHeight_18 ?_
    refine kx_if_le (tgt := 28) hx hb (by omega) dX5_leastHeight_21 (by decide) (fun c_21_6 => ?_) (fun c => absurd c (by omega))
    refine lv_aload_n hx hb dX5_leastHeight_28 rfl (lv_at hl 0 rfl) ?_
    refine lv_iload_n hx hb dX5_leastHeight_29 rfl (lv_at hl 1 rfl) ?_
    refine kr_V (As := [.int (nI r0)]) (rest := []) (C := RX5) (own := RX5) ⟨hx, hb, hml, hown, hts⟩ (c_X5_leastFor l D cI cC cH cL a z zh tx pa wy (nI ns) (nI nl) (nI 0) rd nu pt za r0 (by first | assumption | omega) (by first | assumption | omega) (by first | assumption | omega)) (cwV 1 hts gX5_leastHeight_X5_leastFor rfl rfl rfl k_X5_leastFor ⟨Nat.le_of_ble_eq_true rfl, Nat.le_of_ble_eq_true rfl⟩) hP hK (va_recv (q := (RX5, TX5, 12)) hK hP (ci := 5) (q0 := 0) rfl rfl) rfl hl.1 rfl (Nat.le_of_ble_eq_true rfl) dX5_leastHeight_30 ⟨Nat.le_of_ble_eq_true rfl, Nat.le_of_ble_eq_true rfl⟩ ?_
    have e_7 : (leastForI z r0 : Int32) = (if tRow z (nI r0) = 0 then leastForI z (cl (nI r0)) else nI 0) := by first | rfl | omega | (simp [tRow, Int32.not_lt, Int32.not_le, c_6_1, hc_r0]; done) | (simp [tRow, Int32.not_lt, Int32.not_le, c_6_1, hc_r0]; omega) | (revert c_6_1 hc_r0; simp +contextual [tRow, Int32.not_lt, Int32.not_le]; done) | (revert c_6_1 hc_r0; simp +contextual [tRow, Int32.not_lt, Int32.not_le]; omega)
    have ec_th_8 : ((nI 0) : Int32) = (nI (tRow z (nI r0))) := by first | rfl | omega | (simp [tRow, Int32.not_lt, Int32.not_le, c_6_1, hc_r0]; done) | (simp [tRow, Int32.not_lt, Int32.not_le, c_6_1, hc_r0]; omega) | (revert c_6_1 hc_r0; simp +contextual [tRow, Int32.not_lt, Int32.not_le]; done) | (revert c_6_1 hc_r0; simp +contextual [tRow, Int32.not_lt, Int32.not_le]; omega)
    have ew_9 : (MW a cI z (nI ns) zh (nI nl) tx (nI 0) pa rd nu pt wy za : va_W) = (MW a cI z (nI ns) zh (nI nl) tx (nI (tRow z (nI r0))) pa rd nu pt wy za) := mw_c rfl rfl rfl rfl rfl ec_th_8 rfl rfl rfl rfl rfl rfl
    rw [ew_9] at hP hD
    subst hw0
    exact kq_iret hx hb hrt hlocks e_7 hP hD hS dX5_leastHeight_33
set_option maxRecDepth 20000 in
theorem iX5_ifLifted_5 : ∀ w ∈ wsX50, w ∈ wsX5_ifLifted := by decide +kernel
set_option maxHeartbeats 4000000 in
set_option maxRecDepth 100000 in
theorem c_X5_ifLifted (l : Launch) (D : va_G) (cI cC cH cL : ClassId) (a : Nat → Nat) (z zh tx pa wy : ZZ) (ns nl : Nat) (th rd nu pt : Int32) (za : Int64) (ro : Int32) (h0 : Int32) (hw : WF z) : Met l yX5_ifLifted wsX5_ifLifted ({ frames := 9, cells := 0, slots := 0, locals := 211 }) (kw [.ref (a 0), .int ro, .int h0] D (MW a cI z (nI ns) zh (nI nl) tx th pa rd nu pt wy za) (kT cI cC cH cL)) (kq D (MW a cI z (nI ns) zh (nI nl) tx th pa rd nu pt wy za) (MW a cI z (nI ns) zh (nI nl) tx (nI (tLift z ro h0)) pa rd nu pt wy za) (.returned (some (.int (if tLift z ro h0 = 0 then nI (liftThen z (cl ro) h0) else nI 0))))) 0 0 (kA (MW a cI z (nI ns) zh (nI nl) tx th pa rd nu pt wy za)) := by
  refine Met.ofW (cc := cX5_ifLifted) (maxL := 3) (ret := (some .int)) (by decide) rfl ?_
  intro p e s m args below meth c s₁ B hml hv
  obtain ⟨rfl, hP, hK, hD0⟩ := hv
  have hx := B.exec
  have hb := B.bytes
  have hrt := B.returns
  have hts := atoms_spec (ws := wsX5_ifLifted) B.pre
  have hown : s.vm.findClass RX5 = some m.cls := findClass_of_methodNamed B.named
  have hlocks := B.notSynchronized
  have hl := lv_entry ([.ref (a 0), .int ro, .int h0]) (n := 3) (Nat.le_of_ble_eq_true rfl)
  rw [lg_entry_eq]
  generalize (lg_sl ([.ref (a 0), .int ro, .int h0]) ++ List.replicate (3 - (lg_sl ([.ref (a 0), .int ro, .int h0])).length) Slot.unset).toArray = ls at hl ⊢
  have hl : lv_has ls 3 [(0, .ref (a 0)), (1, .int ro), (2, .int h0)] := hl
  have hD := kA_self hD0
  obtain ⟨w0, hw0⟩ : ∃ w : va_W, w = MW a cI z (nI ns) zh (nI nl) tx th pa rd nu pt wy za := ⟨_, rfl⟩
  have hD : va_D (kA w0) (MW a cI z (nI ns) zh (nI nl) tx th pa rd nu pt wy za) := by rw [hw0]; exact hD
  have hS : va_S (kA w0) s.heap s.heap [] := va_S.rf
  rw [show kA (MW a cI z (nI ns) zh (nI nl) tx th pa rd nu pt wy za) = kA w0 from by rw [hw0], show kq D (MW a cI z (nI ns) zh (nI nl) tx th pa rd nu pt wy za) = kq D w0 from by rw [hw0]]
  have hP : va_P D vwCl (MW a cI z (nI ns) zh (nI nl) tx th pa rd nu pt wy za) s.heap := hP
  have hR10 := wf_R10 hw
  have hC4 := wf_C4 hw
  refine lv_aload_n hx hb dX5_ifLifted_0 rfl (lv_at hl 0 rfl) ?_
  refine lv_aload_n hx hb dX5_ifLifted_1 rfl (lv_at hl 0 rfl) ?_
  refine lv_iload_n hx hb dX5_ifLifted_2 rfl (lv_at hl 1 rfl) ?_
  refine kr_V (As := [.int ro]) (rest := [.ref (a 0)]) (C := RX5) (own := RX5) ⟨hx, hb, hml, hown, hts⟩ (c_X5_isRow l D cI cC cH cL a z zh tx pa wy (nI ns) (nI nl) th rd nu pt za ro (by first | assumption | omega)) (cwV 1 hts gX5_ifLifted_X5_isRow rfl rfl rfl k_X5_isRow ⟨Nat.le_of_ble_eq_true rfl, Nat.le_of_ble_eq_true rfl⟩) hP hK (va_recv (q := (RX5, TX5, 12)) hK hP (ci := 5) (q0 := 0) rfl rfl) rfl hl.1 rfl (Nat.le_of_ble_eq_true rfl) dX5_ifLifted_3 ⟨Nat.le_of_ble_eq_true rfl, Nat.le_of_ble_eq_true rfl⟩ ?_
  refine kx_if_neb (tgt := 13) hx hb dX5_ifLifted_6 (by decide) (fun c_6_0 => ?_) (fun c_6_1 => ?_)
  · obtain ⟨r0, hr0, rfl⟩ := isRow_out hw c_6_0
    have hc_r0 : cl (nI r0) = r0 := cl_nI (show r0 < 2 ^ 31 by omega)
    refine lv_iload_n hx hb dX5_ifLifted_13 rfl (lv_at hl 2 rfl) ?_
    refine kr_S (As := [.int h0]) (rest := [.ref (a 0)]) (own := RX5) ⟨hx, hb, hml, hown, hts⟩ (c_X5_isHeight l D cI cC cH cL  h0 ) (va_cwS 1 hts gX5_ifLifted_X5_isHeight rfl rfl rfl k_X5_isHeightS ⟨Nat.le_of_ble_eq_true rfl, Nat.le_of_ble_eq_true rfl⟩) (hP.sub (ws' := []) [] rfl) hK rfl hl.1 rfl (Nat.le_of_ble_eq_true rfl) dX5_ifLifted_14 ⟨Nat.le_of_ble_eq_true rfl, Nat.le_of_ble_eq_true rfl⟩ ?_
    refine kx_if_eqb (tgt := 24) hx hb dX5_ifLifted_17 (by decide) (fun c_17_2 => ?_) (fun c_17_3 => ?_)
    · refine lv_iconst (v := nI 2) hx hb dX5_ifLifted_24 (by decide) ?_
      refine va_put (D := D) (ci := 5) (v := .int (nI 2)) (ty := .int) (C := RX5) (T := TX5) (N := 12) hx hb hts iX5_ifLifted_5 tyX5 tyX5_ok nmX5 hown hK hP hD hS 0 rfl rfl 5 (by decide) (hts (.fieldLink RX5 25 "HallSightsModel" "thrown" "I") (List.mem_of_getElem? (i := 1) rfl)) (fun _ h9 => h9) rfl (by decide +kernel) rfl rfl (Nat.le_of_ble_eq_true rfl) dX5_ifLifted_25 (fun H locs hP hD hS => ?_)
      have hP : va_P D vwCl (MW a cI z (nI ns) zh (nI nl) tx (nI 2) pa rd nu pt wy za) H := hP
      have hD : va_D (kA w0) (MW a cI z (nI ns) zh (nI nl) tx (nI 2) pa rd nu pt wy za) := hD
      refine lv_aload_n hx hb dX5_ifLifted_28 rfl (lv_at hl 0 rfl) ?_
      refine va_get (D := D) (ci := 5) (v := .int (nI 2)) (C := RX5) (T := TX5) (N := 12) hx hb hts iX5_ifLifted_5 hown hK hP 0 rfl rfl 5 (by decide) (hts (.fieldLink RX5 25 "HallSightsModel" "thrown" "I") (List.mem_of_getElem? (i := 1) rfl)) (fun _ h9 => h9) rfl dX5_ifLifted_29 ?_
      refine kx_if_le (tgt := 39) hx hb (by omega) dX5_ifLifted_32 (by decide) (fun c => absurd c (by omega)) (fun c_32_4 => ?_)
      refine lv_iconst (v := nI 0) hx hb dX5_ifLifted_35 (by decide) ?_
      refine lv_goto (tgt := 45) hx hb dX5_ifLifted_36 (by decide) ?_
      have e_5 : (nI 0 : Int32) = (if tLift z (nI r0) h0 = 0 then nI (liftThen z (cl (nI r0)) h0) else nI 0) := by first | rfl | omega | (simp [tLift, Int32.not_lt, Int32.not_le, c_6_0, hc_r0, c_17_2]; done) | (simp [tLift, Int32.not_lt, Int32.not_le, c_6_0, hc_r0, c_17_2]; omega) | (revert c_6_0 hc_r0 c_17_2; simp +contextual [tLift, Int32.not_lt, Int32.not_le]; done) | (revert c_6_0 hc_r0 c_17_2; simp +contextual [tLift, Int32.not_lt, Int32.not_le]; omega)
      have ec_th_6 : ((nI 2) : Int32) = (nI (tLift z (nI r0) h0)) := by first | rfl | omega | (simp [tLift, Int32.not_lt, Int32.not_le, c_6_0, hc_r0, c_17_2]; done) | (simp [tLift, Int32.not_lt, Int32.not_le, c_6_0, hc_r0, c_17_2]; omega) | (revert c_6_0 hc_r0 c_17_2; simp +contextual [tLift, Int32.not_lt, Int32.not_le]; done) | (revert c_6_0 hc_r0 c_17_2; simp +contextual [tLift, Int32.not_lt, Int32.not_le]; omega)
      have ew_7 : (MW a cI z (nI ns) zh (nI nl) tx (nI 2) pa rd nu pt wy za : va_W) = (MW a cI z (nI ns) zh (nI nl) tx (nI (tLift z (nI r0) h0)) pa rd nu pt wy za) := mw_c rfl rfl rfl rfl rfl ec_th_6 rfl rfl rfl rfl rfl rfl
      rw [ew_7] at hP hD
      subst hw0
      exact kq_iret hx hb hrt hlocks e_5 hP hD hS dX5_ifLifted_45
    · refine lv_iconst (v := nI 0) hx hb dX5_ifLifted_20 (by decide) ?_
      refine lv_goto (tgt := 25) hx hb dX5_ifLifted_21 (by decide) ?_
      refine va_put (D := D) (ci := 5) (v := .int (nI 0)) (ty := .int) (C := RX5) (T := TX5) (N := 12) hx hb hts iX5_ifLifted_5 tyX5 tyX5_ok nmX5 hown hK hP hD hS 0 rfl rfl 5 (by decide) (hts (.fieldLink RX5 25 "HallSightsModel" "thrown" "I") (List.mem_of_getElem? (i := 1) rfl)) (fun _ h9 => h9) rfl (by decide +kernel) rfl rfl (Nat.le_of_ble_eq_true rfl) dX5_ifLifted_25 (fun H locs hP hD hS => ?_)
      have hP : va_P D vwCl (MW a cI z (nI ns) zh (nI nl) tx (nI 0) pa rd nu pt wy za) H := hP
      have hD : va_D (kA w0) (MW a cI z (nI ns) zh (nI nl) tx (nI 0) pa rd nu pt wy za) := hD
      refine lv_aload_n hx hb dX5_ifLifted_28 rfl (lv_at hl 0 rfl) ?_
      refine va_get (D := D) (ci := 5) (v := .int (nI 0)) (C := RX5) (T := TX5) (N := 12) hx hb hts iX5_ifLifted_5 hown hK hP 0 rfl rfl 5 (by decide) (hts (.fieldLink RX5 25 "HallSightsModel" "thrown" "I") (List.mem_of_getElem? (i := 1) rfl)) (fun _ h9 => h9) rfl dX5_ifLifted_29 ?_
      refine kx_if_le (tgt := 39) hx hb (by omega) dX5_ifLifted_32 (by decide) (fun c_32_8 => ?_) (fun c => absurd c (by omega))
      refine lv_aload_n hx hb dX5_ifLifted_39 rfl (lv_at hl 0 rfl) ?_
      refine lv_iload_n hx hb dX5_ifLifted_40 rfl (lv_at hl 1 rfl) ?_
      refine lv_iload_n hx hb dX5_ifLifted_41 rfl (lv_at hl 2 rfl) ?_
      refine kw_V (As := [.int (nI r0), .int h0]) (rest := []) (C := RX5) (own := RX5) ⟨hx, hb, hml, hown, hts⟩ (c_X5_liftedThen l D cI cC cH cL a z zh tx pa wy (nI ns) (nI nl) (nI 0) rd nu pt za r0 h0 (by first | assumption | omega) (by first | assumption | omega)) (cwV 2 hts gX5_ifLifted_X5_liftedThen rfl rfl rfl k_X5_liftedThen ⟨Nat.le_of_ble_eq_true rfl, Nat.le_of_ble_eq_true rfl⟩) hP hD hK hS [0, 1, 2, 3, 4, 5] [] rfl rfl (wr := []) rfl (by decide) (by decide) (by decide) (va_recv (q := (RX5, TX5, 12)) hK hP (ci := 5) (q0 := 0) rfl rfl) rfl hl.1 rfl (Nat.le_of_ble_eq_true rfl) dX5_ifLifted_42 ⟨Nat.le_of_ble_eq_true rfl, Nat.le_of_ble_eq_true rfl⟩ (fun H locs hP hD hS => ?_)
      have hP : va_P D vwCl (MW a cI z (nI ns) zh (nI nl) tx (nI 0) pa rd nu pt wy za) H := hP
      have hD : va_D (kA w0) (MW a cI z (nI ns) zh (nI nl) tx (nI 0) pa rd nu pt wy za) := hD
      have e_9 : (nI (liftThen z r0 h0) : Int32) = (if tLift z (nI r0) h0 = 0 then nI (liftThen z (cl (nI r0)) h0) else nI 0) := by first | rfl | omega | (simp [tLift, Int32.not_lt, Int32.not_le, c_6_0, hc_r0, c_17_3]; done) | (simp [tLift, Int32.not_lt, Int32.not_le, c_6_0, hc_r0, c_17_3]; omega) | (revert c_6_0 hc_r0 c_17_3; simp +contextual [tLift, Int32.not_lt, Int32.not_le]; done) | (revert c_6_0 hc_r0 c_17_3; simp +contextual [tLift, Int32.not_lt, Int32.not_le]; omega)
      have ec_th_10 : ((nI 0) : Int32) = (nI (tLift z (nI r0) h0)) := by first | rfl | omega | (simp [tLift, Int32.not_lt, Int32.not_le, c_6_0, hc_r0, c_17_3]; done) | (simp [tLift, Int32.not_lt, Int32.not_le, c_6_0, hc_r0, c_17_3]; omega) | (revert c_6_0 hc_r0 c_17_3; simp +contextual [tLift, Int32.not_lt, Int32.not_le]; done) | (revert c_6_0 hc_r0 c_17_3; simp +contextual [tLift, Int32.not_lt, Int32.not_le]; omega)
      have ew_11 : (MW a cI z (nI ns) zh (nI nl) tx (nI 0) pa rd nu pt wy za : va_W) = (MW a cI z (nI ns) zh (nI nl) tx (nI (tLift z (nI r0) h0)) pa rd nu pt wy za) := mw_c rfl rfl rfl rfl rfl ec_th_10 rfl rfl rfl rfl rfl rfl
      rw [ew_11] at hP hD
      subst hw0
      exact kq_iret hx hb hrt hlocks e_9 hP hD hS dX5_ifLifted_45
  · refine lv_iconst (v := nI 1) hx hb dX5_ifLifted_9 (by decide) ?_
    refine lv_goto (tgt := 25) hx hb dX5_ifLifted_10 (by decide) ?_
    refine va_put (D := D) (ci := 5) (v := .int (nI 1)) (ty := .int) (C := RX5) (T := TX5) (N := 12) hx hb hts iX5_ifLifted_5 tyX5 tyX5_ok nmX5 hown hK hP hD hS 0 rfl rfl 5 (by decide) (hts (.fieldLink RX5 25 "HallSightsModel" "thrown" "I") (List.mem_of_getElem? (i := 1) rfl)) (fun _ h9 => h9) rfl (by decide +kernel) rfl rfl (Nat.le_of_ble_eq_true rfl) dX5_ifLifted_25 (fun H locs hP hD hS => ?_)
    have hP : va_P D vwCl (MW a cI z (nI ns) zh (nI nl) tx (nI 1) pa rd nu pt wy za) H := hP
    have hD : va_D (kA w0) (MW a cI z (nI ns) zh (nI nl) tx (nI 1) pa rd nu pt wy za) := hD
    refine lv_aload_n hx hb dX5_ifLifted_28 rfl (lv_at hl 0 rfl) ?_
    refine va_get (D := D) (ci := 5) (v := .int (nI 1)) (C := RX5) (T := TX5) (N := 12) hx hb hts iX5_ifLifted_5 hown hK hP 0 rfl rfl 5 (by decide) (hts (.fieldLink RX5 25 "HallSightsModel" "thrown" "I") (List.mem_of_getElem? (i := 1) rfl)) (fun _ h9 => h9) rfl dX5_ifLifted_29 ?_
    refine kx_if_le (tgt := 39) hx hb (by omega) dX5_ifLifted_32 (by decide) (fun c => absurd c (by omega)) (fun c_32_12 => ?_)
    refine lv_iconst (v := nI 0) hx hb dX5_ifLifted_35 (by decide) ?_
    refine lv_goto (tgt := 45) hx hb dX5_ifLifted_36 (by decide) ?_
    have e_13 : (nI 0 : Int32) = (if tLift z ro h0 = 0 then nI (liftThen z (cl ro) h0) else nI 0) := by first | rfl | omega | (simp [tLift, Int32.not_lt, Int32.not_le, c_6_1]; done) | (simp [tLift, Int32.not_lt, Int32.not_le, c_6_1]; omega) | (revert c_6_1; simp +contextual [tLift, Int32.not_lt, Int32.not_le]; done) | (revert c_6_1; simp +contextual [tLift, Int32.not_lt, Int32.not_le]; omega)
    have ec_th_14 : ((nI 1) : Int32) = (nI (tLift z ro h0)) := by first | rfl | omega | (simp [tLift, Int32.not_lt, Int32.not_le, c_6_1]; done) | (simp [tLift, Int32.not_lt, Int32.not_le, c_6_1]; omega) | (revert c_6_1; simp +contextual [tLift, Int32.not_lt, Int32.not_le]; done) | (revert c_6_1; simp +contextual [tLift, Int32.not_lt, Int32.not_le]; omega)
    have ew_15 : (MW a cI z (nI ns) zh (nI nl) tx (nI 1) pa rd nu pt wy za : va_W) = (MW a cI z (nI ns) zh (nI nl) tx (nI (tLift z ro h0)) pa rd nu pt wy za) := mw_c rfl rfl rfl rfl rfl ec_th_14 rfl rfl rfl rfl rfl rfl
    rw [ew_15] at hP hD
    subst hw0
    exact kq_iret hx hb hrt hlocks e_13 hP hD hS dX5_ifLifted_45
set_option maxRecDepth 20000 in
theorem iX5_ifTaken_5 : ∀ w ∈ wsX50, w ∈ wsX5_ifTaken := by decide +kernel
set_option maxHeartbeats 4000000 in
set_option maxRecDepth 100000 in
theorem c_X5_ifTaken (l : Launch) (D : va_G) (cI cC cH cL : ClassId) (a : Nat → Nat) (z zh tx pa wy : ZZ) (ns nl : Nat) (th rd nu pt : Int32) (za : Int64) (ro : Int32) (se : Int32) (hw : WF z) : Met l yX5_ifTaken wsX5_ifTaken ({ frames := 8, cells := 0, slots := 0, locals := 189 }) (kw [.ref (a 0), .int ro, .int se] D (MW a cI z (nI ns) zh (nI nl) tx th pa rd nu pt wy za) (kT cI cC cH cL)) (kq D (MW a cI z (nI ns) zh (nI nl) tx th pa rd nu pt wy za) (MW a cI z (nI ns) zh (nI nl) tx (nI (tSeat z ro se)) pa rd nu pt wy za) (.returned (some (.int (if tSeat z ro se = 0 then nI (takThen z (cl ro) (cl se)) else nI 0))))) 0 0 (kA (MW a cI z (nI ns) zh (nI nl) tx th pa rd nu pt wy za)) := by
  refine Met.ofW (cc := cX5_ifTaken) (maxL := 3) (ret := (some .int)) (by decide) rfl ?_
  intro p e s m args below meth c s₁ B hml hv
  obtain ⟨rfl, hP, hK, hD0⟩ := hv
  have hx := B.exec
  have hb := B.bytes
  have hrt := B.returns
  have hts := atoms_spec (ws := wsX5_ifTaken) B.pre
  have hown : s.vm.findClass RX5 = some m.cls := findClass_of_methodNamed B.named
  have hlocks := B.notSynchronized
  have hl := lv_entry ([.ref (a 0), .int ro, .int se]) (n := 3) (Nat.le_of_ble_eq_true rfl)
  rw [lg_entry_eq]
  generalize (lg_sl ([.ref (a 0), .int ro, .int se]) ++ List.replicate (3 - (lg_sl ([.ref (a 0), .int ro, .int se])).length) Slot.unset).toArray = ls at hl ⊢
  have hl : lv_has ls 3 [(0, .ref (a 0)), (1, .int ro), (2, .int se)] := hl
  have hD := kA_self hD0
  obtain ⟨w0, hw0⟩ : ∃ w : va_W, w = MW a cI z (nI ns) zh (nI nl) tx th pa rd nu pt wy za := ⟨_, rfl⟩
  have hD : va_D (kA w0) (MW a cI z (nI ns) zh (nI nl) tx th pa rd nu pt wy za) := by rw [hw0]; exact hD
  have hS : va_S (kA w0) s.heap s.heap [] := va_S.rf
  rw [show kA (MW a cI z (nI ns) zh (nI nl) tx th pa rd nu pt wy za) = kA w0 from by rw [hw0], show kq D (MW a cI z (nI ns) zh (nI nl) tx th pa rd nu pt wy za) = kq D w0 from by rw [hw0]]
  have hP : va_P D vwCl (MW a cI z (nI ns) zh (nI nl) tx th pa rd nu pt wy za) s.heap := hP
  have hR10 := wf_R10 hw
  have hC4 := wf_C4 hw
  refine lv_aload_n hx hb dX5_ifTaken_0 rfl (lv_at hl 0 rfl) ?_
  refine lv_aload_n hx hb dX5_ifTaken_1 rfl (lv_at hl 0 rfl) ?_
  refine lv_iload_n hx hb dX5_ifTaken_2 rfl (lv_at hl 1 rfl) ?_
  refine lv_iload_n hx hb dX5_ifTaken_3 rfl (lv_at hl 2 rfl) ?_
  refine kr_V (As := [.int ro, .int se]) (rest := [.ref (a 0)]) (C := RX5) (own := RX5) ⟨hx, hb, hml, hown, hts⟩ (c_X5_isSeat l D cI cC cH cL a z zh tx pa wy (nI ns) (nI nl) th rd nu pt za ro se (by first | assumption | omega)) (cwV 2 hts gX5_ifTaken_X5_isSeat rfl rfl rfl k_X5_isSeat ⟨Nat.le_of_ble_eq_true rfl, Nat.le_of_ble_eq_true rfl⟩) hP hK (va_recv (q := (RX5, TX5, 12)) hK hP (ci := 5) (q0 := 0) rfl rfl) rfl hl.1 rfl (Nat.le_of_ble_eq_true rfl) dX5_ifTaken_4 ⟨Nat.le_of_ble_eq_true rfl, Nat.le_of_ble_eq_true rfl⟩ ?_
  refine kx_if_eqb (tgt := 14) hx hb dX5_ifTaken_7 (by decide) (fun c_7_0 => ?_) (fun c_7_1 => ?_)
  · refine lv_iconst (v := nI 1) hx hb dX5_ifTaken_14 (by decide) ?_
    refine va_put (D := D) (ci := 5) (v := .int (nI 1)) (ty := .int) (C := RX5) (T := TX5) (N := 12) hx hb hts iX5_ifTaken_5 tyX5 tyX5_ok nmX5 hown hK hP hD hS 0 rfl rfl 5 (by decide) (hts (.fieldLink RX5 25 "HallSightsModel" "thrown" "I") (List.mem_of_getElem? (i := 1) rfl)) (fun _ h9 => h9) rfl (by decide +kernel) rfl rfl (Nat.le_of_ble_eq_true rfl) dX5_ifTaken_15 (fun H locs hP hD hS => ?_)
    have hP : va_P D vwCl (MW a cI z (nI ns) zh (nI nl) tx (nI 1) pa rd nu pt wy za) H := hP
    have hD : va_D (kA w0) (MW a cI z (nI ns) zh (nI nl) tx (nI 1) pa rd nu pt wy za) := hD
    refine lv_aload_n hx hb dX5_ifTaken_18 rfl (lv_at hl 0 rfl) ?_
    refine va_get (D := D) (ci := 5) (v := .int (nI 1)) (C := RX5) (T := TX5) (N := 12) hx hb hts iX5_ifTaken_5 hown hK hP 0 rfl rfl 5 (by decide) (hts (.fieldLink RX5 25 "HallSightsModel" "thrown" "I") (List.mem_of_getElem? (i := 1) rfl)) (fun _ h9 => h9) rfl dX5_ifTaken_19 ?_
    refine kx_if_le (tgt := 29) hx hb (by omega) dX5_ifTaken_22 (by decide) (fun c => absurd c (by omega)) (fun c_22_2 => ?_)
    refine lv_iconst (v := nI 0) hx hb dX5_ifTaken_25 (by decide) ?_
    refine lv_goto (tgt := 35) hx hb dX5_ifTaken_26 (by decide) ?_
    have e_3 : (nI 0 : Int32) = (if tSeat z ro se = 0 then nI (takThen z (cl ro) (cl se)) else nI 0) := by first | rfl | omega | (simp [tSeat, Int32.not_lt, Int32.not_le, c_7_0]; done) | (simp [tSeat, Int32.not_lt, Int32.not_le, c_7_0]; omega) | (revert c_7_0; simp +contextual [tSeat, Int32.not_lt, Int32.not_le]; done) | (revert c_7_0; simp +contextual [tSeat, Int32.not_lt, Int32.not_le]; omega)
    have ec_th_4 : ((nI 1) : Int32) = (nI (tSeat z ro se)) := by first | rfl | omega | (simp [tSeat, Int32.not_lt, Int32.not_le, c_7_0]; done) | (simp [tSeat, Int32.not_lt, Int32.not_le, c_7_0]; omega) | (revert c_7_0; simp +contextual [tSeat, Int32.not_lt, Int32.not_le]; done) | (revert c_7_0; simp +contextual [tSeat, Int32.not_lt, Int32.not_le]; omega)
    have ew_5 : (MW a cI z (nI ns) zh (nI nl) tx (nI 1) pa rd nu pt wy za : va_W) = (MW a cI z (nI ns) zh (nI nl) tx (nI (tSeat z ro se)) pa rd nu pt wy za) := mw_c rfl rfl rfl rfl rfl ec_th_4 rfl rfl rfl rfl rfl rfl
    rw [ew_5] at hP hD
    subst hw0
    exact kq_iret hx hb hrt hlocks e_3 hP hD hS dX5_ifTaken_35
  · obtain ⟨r0, s0, hr0, hs0, rfl, rfl⟩ := isSeat_out hw c_7_1
    have hS0 := wf_S12 hw hr0
    have hc_r0 : cl (nI r0) = r0 := cl_nI (show r0 < 2 ^ 31 by omega)
    have hc_s0 : cl (nI s0) = s0 := cl_nI (show s0 < 2 ^ 31 by omega)
    refine lv_iconst (v := nI 0) hx hb dX5_ifTaken_10 (by decide) ?_
    refine lv_goto (tgt := 15) hx hb dX5_ifTaken_11 (by decide) ?_
    refine va_put (D := D) (ci := 5) (v := .int (nI 0)) (ty := .int) (C := RX5) (T := TX5) (N := 12) hx hb hts iX5_ifTaken_5 tyX5 tyX5_ok nmX5 hown hK hP hD hS 0 rfl rfl 5 (by decide) (hts (.fieldLink RX5 25 "HallSightsModel" "thrown" "I") (List.mem_of_getElem? (i := 1) rfl)) (fun _ h9 => h9) rfl (by decide +kernel) rfl rfl (Nat.le_of_ble_eq_true rfl) dX5_ifTaken_15 (fun H locs hP hD hS => ?_)
    have hP : va_P D vwCl (MW a cI z (nI ns) zh (nI nl) tx (nI 0) pa rd nu pt wy za) H := hP
    have hD : va_D (kA w0) (MW a cI z (nI ns) zh (nI nl) tx (nI 0) pa rd nu pt wy za) := hD
    refine lv_aload_n hx hb dX5_ifTaken_18 rfl (lv_at hl 0 rfl) ?_
    refine va_get (D := D) (ci := 5) (v := .int (nI 0)) (C := RX5) (T := TX5) (N := 12) hx hb hts iX5_ifTaken_5 hown hK hP 0 rfl rfl 5 (by decide) (hts (.fieldLink RX5 25 "HallSightsModel" "thrown" "I") (List.mem_of_getElem? (i := 1) rfl)) (fun _ h9 => h9) rfl dX5_ifTaken_19 ?_
    refine kx_if_le (tgt := 29) hx hb (by omega) dX5_ifTaken_22 (by decide) (fun c_22_6 => ?_) (fun c => absurd c (by omega))
    refine lv_aload_n hx hb dX5_ifTaken_29 rfl (lv_at hl 0 rfl) ?_
    refine lv_iload_n hx hb dX5_ifTaken_30 rfl (lv_at hl 1 rfl) ?_
    refine lv_iload_n hx hb dX5_ifTaken_31 rfl (lv_at hl 2 rfl) ?_
    refine kr_V (As := [.int (nI r0), .int (nI s0)]) (rest := []) (C := RX5) (own := RX5) ⟨hx, hb, hml, hown, hts⟩ (c_X5_takenThen l D cI cC cH cL a z zh tx pa wy (nI ns) (nI nl) (nI 0) rd nu pt za r0 s0 (by first | assumption | omega) (by first | assumption | omega)) (cwV 2 hts gX5_ifTaken_X5_takenThen rfl rfl rfl k_X5_takenThen ⟨Nat.le_of_ble_eq_true rfl, Nat.le_of_ble_eq_true rfl⟩) hP hK (va_recv (q := (RX5, TX5, 12)) hK hP (ci := 5) (q0 := 0) rfl rfl) rfl hl.1 rfl (Nat.le_of_ble_eq_true rfl) dX5_ifTaken_32 ⟨Nat.le_of_ble_eq_true rfl, Nat.le_of_ble_eq_true rfl⟩ ?_
    have e_7 : (nI (takThen z r0 s0) : Int32) = (if tSeat z (nI r0) (nI s0) = 0 then nI (takThen z (cl (nI r0)) (cl (nI s0))) else nI 0) := by first | rfl | omega | (simp [tSeat, Int32.not_lt, Int32.not_le, c_7_1, hc_r0, hc_s0]; done) | (simp [tSeat, Int32.not_lt, Int32.not_le, c_7_1, hc_r0, hc_s0]; omega) | (revert c_7_1 hc_r0 hc_s0; simp +contextual [tSeat, Int32.not_lt, Int32.not_le]; done) | (revert c_7_1 hc_r0 hc_s0; simp +contextual [tSeat, Int32.not_lt, Int32.not_le]; omega)
    have ec_th_8 : ((nI 0) : Int32) = (nI (tSeat z (nI r0) (nI s0))) := by first | rfl | omega | (simp [tSeat, Int32.not_lt, Int32.not_le, c_7_1, hc_r0, hc_s0]; done) | (simp [tSeat, Int32.not_lt, Int32.not_le, c_7_1, hc_r0, hc_s0]; omega) | (revert c_7_1 hc_r0 hc_s0; simp +contextual [tSeat, Int32.not_lt, Int32.not_le]; done) | (revert c_7_1 hc_r0 hc_s0; simp +contextual [tSeat, Int32.not_lt, Int32.not_le]; omega)
    have ew_9 : (MW a cI z (nI ns) zh (nI nl) tx (nI 0) pa rd nu pt wy za : va_W) = (MW a cI z (nI ns) zh (nI nl) tx (nI (tSeat z (nI r0) (nI s0))) pa rd nu pt wy za) := mw_c rfl rfl rfl rfl rfl ec_th_8 rfl rfl rfl rfl rfl rfl
    rw [ew_9] at hP hD
    subst hw0
    exact kq_iret hx hb hrt hlocks e_7 hP hD hS dX5_ifTaken_35
set_option maxRecDepth 20000 in
theorem iX5_worstColumn_5 : ∀ w ∈ wsX50, w ∈ wsX5_worstColumn := by decide +kernel
set_option maxHeartbeats 4000000 in
set_option maxRecDepth 100000 in
theorem c_X5_worstColumn (l : Launch) (D : va_G) (cI cC cH cL : ClassId) (a : Nat → Nat) (z zh tx pa wy : ZZ) (ns nl : Nat) (th rd nu pt : Int32) (za : Int64)  (hw : WF z) : Met l yX5_worstColumn wsX5_worstColumn ({ frames := 6, cells := 0, slots := 0, locals := 144 }) (kw [.ref (a 0)] D (MW a cI z (nI ns) zh (nI nl) tx th pa rd nu pt wy za) (kT cI cC cH cL)) (kq D (MW a cI z (nI ns) zh (nI nl) tx th pa rd nu pt wy za) (MW a cI z (nI ns) zh (nI nl) tx (nI 0) pa rd nu pt wy za) (.returned (some (.int (worstI z))))) 0 0 (kA (MW a cI z (nI ns) zh (nI nl) tx th pa rd nu pt wy za)) := by
  refine Met.ofW (cc := cX5_worstColumn) (maxL := 1) (ret := (some .int)) (by decide) rfl ?_
  intro p e s m args below meth c s₁ B hml hv
  obtain ⟨rfl, hP, hK, hD0⟩ := hv
  have hx := B.exec
  have hb := B.bytes
  have hrt := B.returns
  have hts := atoms_spec (ws := wsX5_worstColumn) B.pre
  have hown : s.vm.findClass RX5 = some m.cls := findClass_of_methodNamed B.named
  have hlocks := B.notSynchronized
  have hl := lv_entry ([.ref (a 0)]) (n := 1) (Nat.le_of_ble_eq_true rfl)
  rw [lg_entry_eq]
  generalize (lg_sl ([.ref (a 0)]) ++ List.replicate (1 - (lg_sl ([.ref (a 0)])).length) Slot.unset).toArray = ls at hl ⊢
  have hl : lv_has ls 1 [(0, .ref (a 0))] := hl
  have hD := kA_self hD0
  obtain ⟨w0, hw0⟩ : ∃ w : va_W, w = MW a cI z (nI ns) zh (nI nl) tx th pa rd nu pt wy za := ⟨_, rfl⟩
  have hD : va_D (kA w0) (MW a cI z (nI ns) zh (nI nl) tx th pa rd nu pt wy za) := by rw [hw0]; exact hD
  have hS : va_S (kA w0) s.heap s.heap [] := va_S.rf
  rw [show kA (MW a cI z (nI ns) zh (nI nl) tx th pa rd nu pt wy za) = kA w0 from by rw [hw0], show kq D (MW a cI z (nI ns) zh (nI nl) tx th pa rd nu pt wy za) = kq D w0 from by rw [hw0]]
  have hP : va_P D vwCl (MW a cI z (nI ns) zh (nI nl) tx th pa rd nu pt wy za) s.heap := hP
  have hR10 := wf_R10 hw
  have hC4 := wf_C4 hw
  refine lv_aload_n hx hb dX5_worstColumn_0 rfl (lv_at hl 0 rfl) ?_
  refine lv_iconst (v := nI 0) hx hb dX5_worstColumn_1 (by decide) ?_
  refine va_put (D := D) (ci := 5) (v := .int (nI 0)) (ty := .int) (C := RX5) (T := TX5) (N := 12) hx hb hts iX5_worstColumn_5 tyX5 tyX5_ok nmX5 hown hK hP hD hS 0 rfl rfl 5 (by decide) (hts (.fieldLink RX5 25 "HallSightsModel" "thrown" "I") (List.mem_of_getElem? (i := 1) rfl)) (fun _ h9 => h9) rfl (by decide +kernel) rfl rfl (Nat.le_of_ble_eq_true rfl) dX5_worstColumn_2 (fun H locs hP hD hS => ?_)
  have hP : va_P D vwCl (MW a cI z (nI ns) zh (nI nl) tx (nI 0) pa rd nu pt wy za) H := hP
  have hD : va_D (kA w0) (MW a cI z (nI ns) zh (nI nl) tx (nI 0) pa rd nu pt wy za) := hD
  refine lv_aload_n hx hb dX5_worstColumn_5 rfl (lv_at hl 0 rfl) ?_
  refine kr_V (As := []) (rest := []) (C := RX5) (own := RX5) ⟨hx, hb, hml, hown, hts⟩ (c_X5_worstNow l D cI cC cH cL a z zh tx pa wy (nI ns) (nI nl) (nI 0) rd nu pt za  (by first | assumption | omega)) (cwV 0 hts gX5_worstColumn_X5_worstNow rfl rfl rfl k_X5_worstNow ⟨Nat.le_of_ble_eq_true rfl, Nat.le_of_ble_eq_true rfl⟩) hP hK (va_recv (q := (RX5, TX5, 12)) hK hP (ci := 5) (q0 := 0) rfl rfl) rfl hl.1 rfl (Nat.le_of_ble_eq_true rfl) dX5_worstColumn_6 ⟨Nat.le_of_ble_eq_true rfl, Nat.le_of_ble_eq_true rfl⟩ ?_
  subst hw0
  exact kq_iret hx hb hrt hlocks rfl hP hD hS dX5_worstColumn_9
set_option maxRecDepth 20000 in
theorem iX5_seeingShare_5 : ∀ w ∈ wsX50, w ∈ wsX5_seeingShare := by decide +kernel
set_option maxHeartbeats 4000000 in
set_option maxRecDepth 100000 in
theorem c_X5_seeingShare (l : Launch) (D : va_G) (cI cC cH cL : ClassId) (a : Nat → Nat) (z zh tx pa wy : ZZ) (ns nl : Nat) (th rd nu pt : Int32) (za : Int64)  (hw : WF z) : Met l yX5_seeingShare wsX5_seeingShare ({ frames := 9, cells := 0, slots := 0, locals := 208 }) (kw [.ref (a 0)] D (MW a cI z (nI ns) zh (nI nl) tx th pa rd nu pt wy za) (kT cI cC cH cL)) (kq D (MW a cI z (nI ns) zh (nI nl) tx th pa rd nu pt wy za) (MW a cI z (nI ns) zh (nI nl) tx (nI 0) pa rd nu pt wy za) (.returned (some (.double (shareD z))))) 0 0 (kA (MW a cI z (nI ns) zh (nI nl) tx th pa rd nu pt wy za)) := by
  refine Met.ofW (cc := cX5_seeingShare) (maxL := 1) (ret := (some .double)) (by decide) rfl ?_
  intro p e s m args below meth c s₁ B hml hv
  obtain ⟨rfl, hP, hK, hD0⟩ := hv
  have hx := B.exec
  have hb := B.bytes
  have hrt := B.returns
  have hts := atoms_spec (ws := wsX5_seeingShare) B.pre
  have hown : s.vm.findClass RX5 = some m.cls := findClass_of_methodNamed B.named
  have hlocks := B.notSynchronized
  have hl := lv_entry ([.ref (a 0)]) (n := 1) (Nat.le_of_ble_eq_true rfl)
  rw [lg_entry_eq]
  generalize (lg_sl ([.ref (a 0)]) ++ List.replicate (1 - (lg_sl ([.ref (a 0)])).length) Slot.unset).toArray = ls at hl ⊢
  have hl : lv_has ls 1 [(0, .ref (a 0))] := hl
  have hD := kA_self hD0
  obtain ⟨w0, hw0⟩ : ∃ w : va_W, w = MW a cI z (nI ns) zh (nI nl) tx th pa rd nu pt wy za := ⟨_, rfl⟩
  have hD : va_D (kA w0) (MW a cI z (nI ns) zh (nI nl) tx th pa rd nu pt wy za) := by rw [hw0]; exact hD
  have hS : va_S (kA w0) s.heap s.heap [] := va_S.rf
  rw [show kA (MW a cI z (nI ns) zh (nI nl) tx th pa rd nu pt wy za) = kA w0 from by rw [hw0], show kq D (MW a cI z (nI ns) zh (nI nl) tx th pa rd nu pt wy za) = kq D w0 from by rw [hw0]]
  have hP : va_P D vwCl (MW a cI z (nI ns) zh (nI nl) tx th pa rd nu pt wy za) s.heap := hP
  have hR10 := wf_R10 hw
  have hC4 := wf_C4 hw
  refine lv_aload_n hx hb dX5_seeingShare_0 rfl (lv_at hl 0 rfl) ?_
  refine lv_iconst (v := nI 0) hx hb dX5_seeingShare_1 (by decide) ?_
  refine va_put (D := D) (ci := 5) (v := .int (nI 0)) (ty := .int) (C := RX5) (T := TX5) (N := 12) hx hb hts iX5_seeingShare_5 tyX5 tyX5_ok nmX5 hown hK hP hD hS 0 rfl rfl 5 (by decide) (hts (.fieldLink RX5 25 "HallSightsModel" "thrown" "I") (List.mem_of_getElem? (i := 1) rfl)) (fun _ h9 => h9) rfl (by decide +kernel) rfl rfl (Nat.le_of_ble_eq_true rfl) dX5_seeingShare_2 (fun H locs hP hD hS => ?_)
  have hP : va_P D vwCl (MW a cI z (nI ns) zh (nI nl) tx (nI 0) pa rd nu pt wy za) H := hP
  have hD : va_D (kA w0) (MW a cI z (nI ns) zh (nI nl) tx (nI 0) pa rd nu pt wy za) := hD
  refine lv_aload_n hx hb dX5_seeingShare_5 rfl (lv_at hl 0 rfl) ?_
  refine kr_V (As := []) (rest := []) (C := RX5) (own := RX5) ⟨hx, hb, hml, hown, hts⟩ (c_X5_share l D cI cC cH cL a z zh tx pa wy (nI ns) (nI nl) (nI 0) rd nu pt za  (by first | assumption | omega)) (cwV 0 hts gX5_seeingShare_X5_share rfl rfl rfl k_X5_share ⟨Nat.le_of_ble_eq_true rfl, Nat.le_of_ble_eq_true rfl⟩) hP hK (va_recv (q := (RX5, TX5, 12)) hK hP (ci := 5) (q0 := 0) rfl rfl) rfl hl.1 rfl (Nat.le_of_ble_eq_true rfl) dX5_seeingShare_6 ⟨Nat.le_of_ble_eq_true rfl, Nat.le_of_ble_eq_true rfl⟩ ?_
  subst hw0
  exact kq_dret hx hb hrt hlocks rfl hP hD hS dX5_seeingShare_9
set_option maxRecDepth 20000 in
theorem iX5_thrown_5 : ∀ w ∈ wsX50, w ∈ wsX5_thrown := by decide +kernel
set_option maxHeartbeats 4000000 in
set_option maxRecDepth 100000 in
theorem c_X5_thrown (l : Launch) (D : va_G) (cI cC cH cL : ClassId) (a : Nat → Nat) (z zh tx pa wy : ZZ) (st le th rd nu pt : Int32) (za : Int64)   : Met l yX5_thrown wsX5_thrown ({ frames := 0, cells := 0, slots := 0, locals := 0 }) (kp [.ref (a 0)] D (MW a cI z st zh le tx th pa rd nu pt wy za) (kT cI cC cH cL)) (kr (.returned (some (.int th)))) 0 0 (fun _ => False) := by
  refine Met.ofW (cc := cX5_thrown) (maxL := 1) (ret := (some .int)) (by decide) rfl ?_
  intro p e s m args below meth c s₁ B hml hv
  obtain ⟨rfl, hP, hK⟩ := hv
  have hx := B.exec
  have hb := B.bytes
  have hrt := B.returns
  have hts := atoms_spec (ws := wsX5_thrown) B.pre
  have hown : s.vm.findClass RX5 = some m.cls := findClass_of_methodNamed B.named
  have hlocks := B.notSynchronized
  have hl := lv_entry ([.ref (a 0)]) (n := 1) (Nat.le_of_ble_eq_true rfl)
  rw [lg_entry_eq]
  generalize (lg_sl ([.ref (a 0)]) ++ List.replicate (1 - (lg_sl ([.ref (a 0)])).length) Slot.unset).toArray = ls at hl ⊢
  have hl : lv_has ls 1 [(0, .ref (a 0))] := hl
  refine lv_aload_n hx hb dX5_thrown_0 rfl (lv_at hl 0 rfl) ?_
  refine va_get (D := D) (ci := 5) (v := .int th) (C := RX5) (T := TX5) (N := 12) hx hb hts iX5_thrown_5 hown hK hP 0 rfl rfl 5 (by decide) (hts (.fieldLink RX5 25 "HallSightsModel" "thrown" "I") (List.mem_of_getElem? (i := 1) rfl)) (fun _ h9 => h9) rfl dX5_thrown_1 ?_
  exact kr_iret hx hb hrt hlocks rfl rfl dX5_thrown_4
