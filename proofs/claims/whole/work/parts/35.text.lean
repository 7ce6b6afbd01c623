theorem k_X2_read : yX2_read.cls = RX2 ∧ yX2_read.cls ≠ "java/lang/invoke/MethodHandle" ∧ yX2_read.cls ≠ "java/lang/invoke/VarHandle" ∧ (parseMethodDescriptor yX2_read.desc).map (fun d => d.parameters.length) = some 0 := by decide +kernel
theorem k_X2_readS : yX2_read.cls ≠ "java/lang/invoke/MethodHandle" ∧ yX2_read.cls ≠ "java/lang/invoke/VarHandle" ∧ (parseMethodDescriptor yX2_read.desc).map (fun d => d.parameters.length) = some 0 := k_X2_read.2
theorem k_X2_readDigit : yX2_readDigit.cls = RX2 ∧ yX2_readDigit.cls ≠ "java/lang/invoke/MethodHandle" ∧ yX2_readDigit.cls ≠ "java/lang/invoke/VarHandle" ∧ (parseMethodDescriptor yX2_readDigit.desc).map (fun d => d.parameters.length) = some 1 := by decide +kernel
theorem k_X2_readDigitS : yX2_readDigit.cls ≠ "java/lang/invoke/MethodHandle" ∧ yX2_readDigit.cls ≠ "java/lang/invoke/VarHandle" ∧ (parseMethodDescriptor yX2_readDigit.desc).map (fun d => d.parameters.length) = some 1 := k_X2_readDigit.2
theorem k_X2_readEnd : yX2_readEnd.cls = RX2 ∧ yX2_readEnd.cls ≠ "java/lang/invoke/MethodHandle" ∧ yX2_readEnd.cls ≠ "java/lang/invoke/VarHandle" ∧ (parseMethodDescriptor yX2_readEnd.desc).map (fun d => d.parameters.length) = some 1 := by decide +kernel
theorem k_X2_readEndS : yX2_readEnd.cls ≠ "java/lang/invoke/MethodHandle" ∧ yX2_readEnd.cls ≠ "java/lang/invoke/VarHandle" ∧ (parseMethodDescriptor yX2_readEnd.desc).map (fun d => d.parameters.length) = some 1 := k_X2_readEnd.2
set_option maxRecDepth 20000 in
theorem iX2_put_2 : ∀ w ∈ wsX20, w ∈ wsX2_put := by decide +kernel
set_option maxHeartbeats 4000000 in
set_option maxRecDepth 100000 in
theorem c_X2_put (l : Launch) (D : va_G) (cI cC cH cL : ClassId) (t : Nat → Nat) (ts tn : ZZ) (tl tt : Nat) (tb : Bool) (c0 : Nat) (hc : c0 < 65536) (hl : tl < 60) : Met l yX2_put wsX2_put ({ frames := 0, cells := 0, slots := 0, locals := 0 }) (kw [.ref (t 0), .int (nI c0)] D (TW t cC cI ts (nI tl) tn (nI tt) (bI tb)) (kT cI cC cH cL)) (kq D (TW t cC cI ts (nI tl) tn (nI tt) (bI tb)) (TW t cC cI (upd ts tl (nI c0)) (nI (tl + 1)) tn (nI tt) (bI tb)) (.returned none)) 0 0 (kA (TW t cC cI ts (nI tl) tn (nI tt) (bI tb))) := by
  refine Met.ofW (cc := cX2_put) (maxL := 2) (ret := none) (by decide) rfl ?_
  intro p e s m args below meth c s₁ B hml hv
  obtain ⟨rfl, hP, hK, hD0⟩ := hv
  have hx := B.exec
  have hb := B.bytes
  have hrt := B.returns
  have hts := atoms_spec (ws := wsX2_put) B.pre
  have hown : s.vm.findClass RX2 = some m.cls := findClass_of_methodNamed B.named
  have hlocks := B.notSynchronized
  have hl := lv_entry ([.ref (t 0), .int (nI c0)]) (n := 2) (Nat.le_of_ble_eq_true rfl)
  rw [lg_entry_eq]
  generalize (lg_sl ([.ref (t 0), .int (nI c0)]) ++ List.replicate (2 - (lg_sl ([.ref (t 0), .int (nI c0)])).length) Slot.unset).toArray = ls at hl ⊢
  have hl : lv_has ls 2 [(0, .ref (t 0)), (1, .int (nI c0))] := hl
  have hD := kA_self hD0
  obtain ⟨w0, hw0⟩ : ∃ w : va_W, w = TW t cC cI ts (nI tl) tn (nI tt) (bI tb) := ⟨_, rfl⟩
  have hD : va_D (kA w0) (TW t cC cI ts (nI tl) tn (nI tt) (bI tb)) := by rw [hw0]; exact hD
  have hS : va_S (kA w0) s.heap s.heap [] := va_S.rf
  rw [show kA (TW t cC cI ts (nI tl) tn (nI tt) (bI tb)) = kA w0 from by rw [hw0], show kq D (TW t cC cI ts (nI tl) tn (nI tt) (bI tb)) = kq D w0 from by rw [hw0]]
  have hP : va_P D vwCl (TW t cC cI ts (nI tl) tn (nI tt) (bI tb)) s.heap := hP
  refine lv_aload_n hx hb dX2_put_0 rfl (lv_at hl 0 rfl) ?_
  refine va_get (D := D) (ci := 2) (v := .int (nI tl)) (C := RX2) (T := TX2) (N := 5) hx hb hts iX2_put_2 hown hK hP 0 rfl rfl 1 (by decide) (hts (.fieldLink RX2 19 "HallSights$RowsText" "length" "I") (List.mem_of_getElem? (i := 1) rfl)) (fun _ h9 => h9) rfl dX2_put_1 ?_
  refine lv_bipush (v := nI 60) hx hb dX2_put_4 (by decide) ?_
  refine kx_icmp_ge (tgt := 29) hx hb (by omega) (by omega) dX2_put_6 (by decide) (fun c_6_0 => ?_) (fun c_6_1 => ?_)
  · have ec_ts_2 : (ts : ZZ) = (upd ts tl (nI c0)) := by first | rfl | omega | (simp [Int32.not_lt, Int32.not_le, c_6_0, Nat.not_lt.mpr c_6_0]; done) | (simp [Int32.not_lt, Int32.not_le, c_6_0, Nat.not_lt.mpr c_6_0]; omega) | (revert c_6_0; simp +contextual [Int32.not_lt, Int32.not_le]; done) | (revert c_6_0; simp +contextual [Int32.not_lt, Int32.not_le]; omega)
    have ec_tl_3 : ((nI tl) : Int32) = (nI (tl + 1)) := by first | rfl | omega | (simp [Int32.not_lt, Int32.not_le, c_6_0, Nat.not_lt.mpr c_6_0]; done) | (simp [Int32.not_lt, Int32.not_le, c_6_0, Nat.not_lt.mpr c_6_0]; omega) | (revert c_6_0; simp +contextual [Int32.not_lt, Int32.not_le]; done) | (revert c_6_0; simp +contextual [Int32.not_lt, Int32.not_le]; omega)
    have ew_4 : (TW t cC cI ts (nI tl) tn (nI tt) (bI tb) : va_W) = (TW t cC cI (upd ts tl (nI c0)) (nI (tl + 1)) tn (nI tt) (bI tb)) := tw_c ec_ts_2 ec_tl_3 rfl rfl rfl
    rw [ew_4] at hP hD
    subst hw0
    exact kq_vret hx hb hrt hlocks hP hD hS dX2_put_29
  · refine lv_aload_n hx hb dX2_put_9 rfl (lv_at hl 0 rfl) ?_
    refine va_get (D := D) (ci := 2) (v := .ref (t 1)) (C := RX2) (T := TX2) (N := 5) hx hb hts iX2_put_2 hown hK hP 0 rfl rfl 0 (by decide) (hts (.fieldLink RX2 9 "HallSights$RowsText" "signs" "[C") (List.mem_of_getElem? (i := 2) rfl)) (fun _ h9 => h9) rfl dX2_put_10 ?_
    refine lv_aload_n hx hb dX2_put_13 rfl (lv_at hl 0 rfl) ?_
    refine va_get (D := D) (ci := 2) (v := .int (nI tl)) (C := RX2) (T := TX2) (N := 5) hx hb hts iX2_put_2 hown hK hP 0 rfl rfl 1 (by decide) (hts (.fieldLink RX2 19 "HallSights$RowsText" "length" "I") (List.mem_of_getElem? (i := 1) rfl)) (fun _ h9 => h9) rfl dX2_put_14 ?_
    refine lv_iload_n hx hb dX2_put_17 rfl (lv_at hl 1 rfl) ?_
    refine kx_cast hx hb hK hP hD hS 1 1 rfl rfl (by omega) (by decide) (by omega) dX2_put_18 (fun H locs hP hD hS => ?_)
    have hP : va_P D vwCl (TW t cC cI (upd ts tl (nI c0)) (nI tl) tn (nI tt) (bI tb)) H := hP
    have hD : va_D (kA w0) (TW t cC cI (upd ts tl (nI c0)) (nI tl) tn (nI tt) (bI tb)) := hD
    refine lv_aload_n hx hb dX2_put_19 rfl (lv_at hl 0 rfl) ?_
    refine lv_dup hx hb dX2_put_20 rfl ?_
    refine va_get (D := D) (ci := 2) (v := .int (nI tl)) (C := RX2) (T := TX2) (N := 5) hx hb hts iX2_put_2 hown hK hP 0 rfl rfl 1 (by decide) (hts (.fieldLink RX2 19 "HallSights$RowsText" "length" "I") (List.mem_of_getElem? (i := 1) rfl)) (fun _ h9 => h9) rfl dX2_put_21 ?_
    refine lv_iconst (v := nI 1) hx hb dX2_put_24 (by decide) ?_
    refine kx_iadd hx hb dX2_put_25 ?_
    refine va_put (D := D) (ci := 2) (v := .int (nI (tl + 1))) (ty := .int) (C := RX2) (T := TX2) (N := 5) hx hb hts iX2_put_2 tyX2 tyX2_ok nmX2 hown hK hP hD hS 0 rfl rfl 1 (by decide) (hts (.fieldLink RX2 19 "HallSights$RowsText" "length" "I") (List.mem_of_getElem? (i := 1) rfl)) (fun _ h9 => h9) rfl (by decide +kernel) rfl rfl (Nat.le_of_ble_eq_true rfl) dX2_put_26 (fun H locs hP hD hS => ?_)
    have hP : va_P D vwCl (TW t cC cI (upd ts tl (nI c0)) (nI (tl + 1)) tn (nI tt) (bI tb)) H := hP
    have hD : va_D (kA w0) (TW t cC cI (upd ts tl (nI c0)) (nI (tl + 1)) tn (nI tt) (bI tb)) := hD
    subst hw0
    exact kq_vret hx hb hrt hlocks hP hD hS dX2_put_29
set_option maxRecDepth 20000 in
theorem iX2_readDigit_2 : ∀ w ∈ wsX20, w ∈ wsX2_readDigit := by decide +kernel
set_option maxHeartbeats 4000000 in
set_option maxRecDepth 100000 in
theorem c_X2_readDigit (l : Launch) (D : va_G) (cI cC cH cL : ClassId) (y : Nat → Nat) (t : Nat → Nat) (ts tn : ZZ) (tl tt : Nat) (tb : Bool) (d0 : Int32) (ht : tt < 61) : Met l yX2_readDigit wsX2_readDigit ({ frames := 0, cells := 0, slots := 0, locals := 0 }) (kwz y [.ref (t 0), .int d0] D (TW t cC cI ts (nI tl) tn (nI tt) (bI tb)) (kT cI cC cH cL)) (kq D (TW t cC cI ts (nI tl) tn (nI tt) (bI tb)) (TW t cC cI ts (nI tl) (dgF1 tb tn tt d0) (nI tt) (bI true)) (.returned (some (.int (bI (dgOk tb tn tt d0)))))) 0 0 (kA (TW t cC cI ts (nI tl) tn (nI tt) (bI tb))) := by
  refine Met.ofW (cc := cX2_readDigit) (maxL := 4) (ret := (some .boolean)) (by decide) rfl ?_
  intro p e s m args below meth c s₁ B hml hv
  obtain ⟨⟨rfl, hP, hK, hD0⟩, hZ⟩ := hv
  have hx := B.exec
  have hb := B.bytes
  have hrt := B.returns
  have hts := atoms_spec (ws := wsX2_readDigit) B.pre
  have hown : s.vm.findClass RX2 = some m.cls := findClass_of_methodNamed B.named
  have hlocks := B.notSynchronized
  have hl := lv_entry ([.ref (t 0), .int d0]) (n := 4) (Nat.le_of_ble_eq_true rfl)
  rw [lg_entry_eq]
  generalize (lg_sl ([.ref (t 0), .int d0]) ++ List.replicate (4 - (lg_sl ([.ref (t 0), .int d0])).length) Slot.unset).toArray = ls at hl ⊢
  have hl : lv_has ls 4 [(0, .ref (t 0)), (1, .int d0)] := hl
  have hD := kA_self hD0
  obtain ⟨w0, hw0⟩ : ∃ w : va_W, w = TW t cC cI ts (nI tl) tn (nI tt) (bI tb) := ⟨_, rfl⟩
  have hD : va_D (kA w0) (TW t cC cI ts (nI tl) tn (nI tt) (bI tb)) := by rw [hw0]; exact hD
  have hS : va_S (kA w0) s.heap s.heap [] := va_S.rf
  have hZ : zZ y (kA w0) s s.heap := by rw [hw0]; exact hZ
  rw [show kA (TW t cC cI ts (nI tl) tn (nI tt) (bI tb)) = kA w0 from by rw [hw0], show kq D (TW t cC cI ts (nI tl) tn (nI tt) (bI tb)) = kq D w0 from by rw [hw0]]
  have hP : va_P D vwCl (TW t cC cI ts (nI tl) tn (nI tt) (bI tb)) s.heap := hP
  refine lv_aload_n hx hb dX2_readDigit_0 rfl (lv_at hl 0 rfl) ?_
  refine va_get (D := D) (ci := 2) (v := .int (nI tt)) (C := RX2) (T := TX2) (N := 5) hx hb hts iX2_readDigit_2 hown hK hP 0 rfl rfl 3 (by decide) (hts (.fieldLink RX2 23 "HallSights$RowsText" "last" "I") (List.mem_of_getElem? (i := 1) rfl)) (fun _ h9 => h9) rfl dX2_readDigit_1 ?_
  refine lv_iconst (v := nI 3) hx hb dX2_readDigit_4 (by decide) ?_
  refine kx_irem hx hb (by omega) (by omega) (by omega) dX2_readDigit_5 ?_
  refine lv_istore_n (lv' := [(2, .int (nI (tt % 3))), (0, .ref (t 0)), (1, .int d0)]) hx hb dX2_readDigit_6 rfl hl (by decide) rfl (fun ls hl => ?_)
  refine lv_aload_n hx hb dX2_readDigit_7 rfl (lv_at hl 1 rfl) ?_
  refine va_get (D := D) (ci := 2) (v := .int (bI tb)) (C := RX2) (T := TX2) (N := 5) hx hb hts iX2_readDigit_2 hown hK hP 0 rfl rfl 4 (by decide) (hts (.fieldLink RX2 26 "HallSights$RowsText" "begun" "Z") (List.mem_of_getElem? (i := 2) rfl)) (fun _ h9 => h9) rfl dX2_readDigit_8 ?_
  refine kx_if_neb (tgt := 44) hx hb dX2_readDigit_11 (by decide) (fun c_11_0 => ?_) (fun c_11_1 => ?_)
  · refine lv_aload_n hx hb dX2_readDigit_44 rfl (lv_at hl 1 rfl) ?_
    refine va_get (D := D) (ci := 2) (v := .ref (t 2)) (C := RX2) (T := TX2) (N := 5) hx hb hts iX2_readDigit_2 hown hK hP 0 rfl rfl 2 (by decide) (hts (.fieldLink RX2 15 "HallSights$RowsText" "numbers" "[I") (List.mem_of_getElem? (i := 3) rfl)) (fun _ h9 => h9) rfl dX2_readDigit_45 ?_
    refine lv_aload_n hx hb dX2_readDigit_48 rfl (lv_at hl 1 rfl) ?_
    refine va_get (D := D) (ci := 2) (v := .int (nI tt)) (C := RX2) (T := TX2) (N := 5) hx hb hts iX2_readDigit_2 hown hK hP 0 rfl rfl 3 (by decide) (hts (.fieldLink RX2 23 "HallSights$RowsText" "last" "I") (List.mem_of_getElem? (i := 1) rfl)) (fun _ h9 => h9) rfl dX2_readDigit_49 ?_
    refine kx_iald hx hb hK hP 2 0 rfl rfl (by omega) (by decide) dX2_readDigit_52 ?_
    refine lv_if_le (tgt := 82) hx hb dX2_readDigit_53 (by decide) (fun c_53_2 => ?_) (fun c_53_3 => ?_)
    · have c_53_2 : ((tn tt) : Int32) ≤ 0 := c_53_2
      refine lv_iconst (v := nI 0) hx hb dX2_readDigit_82 (by decide) ?_
      refine lv_istore_n (lv' := [(3, .int (nI 0)), (2, .int (nI (tt % 3))), (0, .ref (t 0)), (1, .int d0)]) hx hb dX2_readDigit_83 rfl hl (by decide) rfl (fun ls hl => ?_)
      refine lv_aload_n hx hb dX2_readDigit_84 rfl (lv_at hl 2 rfl) ?_
      refine va_get (D := D) (ci := 2) (v := .ref (t 2)) (C := RX2) (T := TX2) (N := 5) hx hb hts iX2_readDigit_2 hown hK hP 0 rfl rfl 2 (by decide) (hts (.fieldLink RX2 15 "HallSights$RowsText" "numbers" "[I") (List.mem_of_getElem? (i := 3) rfl)) (fun _ h9 => h9) rfl dX2_readDigit_85 ?_
      refine lv_aload_n hx hb dX2_readDigit_88 rfl (lv_at hl 2 rfl) ?_
      refine va_get (D := D) (ci := 2) (v := .int (nI tt)) (C := RX2) (T := TX2) (N := 5) hx hb hts iX2_readDigit_2 hown hK hP 0 rfl rfl 3 (by decide) (hts (.fieldLink RX2 23 "HallSights$RowsText" "last" "I") (List.mem_of_getElem? (i := 1) rfl)) (fun _ h9 => h9) rfl dX2_readDigit_89 ?_
      refine lv_aload_n hx hb dX2_readDigit_92 rfl (lv_at hl 2 rfl) ?_
      refine va_get (D := D) (ci := 2) (v := .ref (t 2)) (C := RX2) (T := TX2) (N := 5) hx hb hts iX2_readDigit_2 hown hK hP 0 rfl rfl 2 (by decide) (hts (.fieldLink RX2 15 "HallSights$RowsText" "numbers" "[I") (List.mem_of_getElem? (i := 3) rfl)) (fun _ h9 => h9) rfl dX2_readDigit_93 ?_
      refine lv_aload_n hx hb dX2_readDigit_96 rfl (lv_at hl 2 rfl) ?_
      refine va_get (D := D) (ci := 2) (v := .int (nI tt)) (C := RX2) (T := TX2) (N := 5) hx hb hts iX2_readDigit_2 hown hK hP 0 rfl rfl 3 (by decide) (hts (.fieldLink RX2 23 "HallSights$RowsText" "last" "I") (List.mem_of_getElem? (i := 1) rfl)) (fun _ h9 => h9) rfl dX2_readDigit_97 ?_
      refine kx_iald hx hb hK hP 2 0 rfl rfl (by omega) (by decide) dX2_readDigit_100 ?_
      refine lv_bipush (v := nI 10) hx hb dX2_readDigit_101 (by decide) ?_
      refine lv_imul hx hb dX2_readDigit_103 ?_
      refine lv_iload_n hx hb dX2_readDigit_104 rfl (lv_at hl 3 rfl) ?_
      refine lv_iadd hx hb dX2_readDigit_105 ?_
      refine kx_iast hx hb hK hP hD hS 2 0 rfl rfl (by omega) (by decide) dX2_readDigit_106 (fun H locs hP hD hS => ?_)
      have hP : va_P D vwCl (TW t cC cI ts (nI tl) (upd tn tt (((tn tt) * (nI 10)) + d0)) (nI tt) (bI tb)) H := hP
      have hD : va_D (kA w0) (TW t cC cI ts (nI tl) (upd tn tt (((tn tt) * (nI 10)) + d0)) (nI tt) (bI tb)) := hD
      refine lv_iload_n hx hb dX2_readDigit_107 rfl (lv_at hl 0 rfl) ?_
      have e_4 : (false : Bool) = (dgOk tb tn tt d0) := by first | rfl | omega | (simp [dgOk, dgF1, Int32.not_lt, Int32.not_le, c_11_0, c_53_2, Int32.not_lt.mpr c_53_2]; done) | (simp [dgOk, dgF1, Int32.not_lt, Int32.not_le, c_11_0, c_53_2, Int32.not_lt.mpr c_53_2]; omega) | (revert c_11_0 c_53_2; simp +contextual [dgOk, dgF1, Int32.not_lt, Int32.not_le]; done) | (revert c_11_0 c_53_2; simp +contextual [dgOk, dgF1, Int32.not_lt, Int32.not_le]; omega)
      have ec_tn_5 : ((upd tn tt (((tn tt) * (nI 10)) + d0)) : ZZ) = (dgF1 tb tn tt d0) := by first | rfl | omega | (simp [dgOk, dgF1, Int32.not_lt, Int32.not_le, c_11_0, c_53_2, Int32.not_lt.mpr c_53_2]; done) | (simp [dgOk, dgF1, Int32.not_lt, Int32.not_le, c_11_0, c_53_2, Int32.not_lt.mpr c_53_2]; omega) | (revert c_11_0 c_53_2; simp +contextual [dgOk, dgF1, Int32.not_lt, Int32.not_le]; done) | (revert c_11_0 c_53_2; simp +contextual [dgOk, dgF1, Int32.not_lt, Int32.not_le]; omega)
      have ec_tb_6 : ((bI tb) : Int32) = (bI true) := by first | rfl | omega | (simp [dgOk, dgF1, Int32.not_lt, Int32.not_le, c_11_0, c_53_2, Int32.not_lt.mpr c_53_2]; done) | (simp [dgOk, dgF1, Int32.not_lt, Int32.not_le, c_11_0, c_53_2, Int32.not_lt.mpr c_53_2]; omega) | (revert c_11_0 c_53_2; simp +contextual [dgOk, dgF1, Int32.not_lt, Int32.not_le]; done) | (revert c_11_0 c_53_2; simp +contextual [dgOk, dgF1, Int32.not_lt, Int32.not_le]; omega)
      have ew_7 : (TW t cC cI ts (nI tl) (upd tn tt (((tn tt) * (nI 10)) + d0)) (nI tt) (bI tb) : va_W) = (TW t cC cI ts (nI tl) (dgF1 tb tn tt d0) (nI tt) (bI true)) := tw_c rfl rfl ec_tn_5 rfl ec_tb_6
      rw [ew_7] at hP hD
      subst hw0
      exact kq_zret hx hb hrt hlocks (congrArg bI e_4) hP hD hS dX2_readDigit_108
    · have c_53_3 : ¬ ((tn tt) : Int32) ≤ 0 := c_53_3
      refine lv_aload_n hx hb dX2_readDigit_56 rfl (lv_at hl 1 rfl) ?_
      refine va_get (D := D) (ci := 2) (v := .ref (t 2)) (C := RX2) (T := TX2) (N := 5) hx hb hts iX2_readDigit_2 hown hK hP 0 rfl rfl 2 (by decide) (hts (.fieldLink RX2 15 "HallSights$RowsText" "numbers" "[I") (List.mem_of_getElem? (i := 3) rfl)) (fun _ h9 => h9) rfl dX2_readDigit_57 ?_
      refine lv_aload_n hx hb dX2_readDigit_60 rfl (lv_at hl 1 rfl) ?_
      refine va_get (D := D) (ci := 2) (v := .int (nI tt)) (C := RX2) (T := TX2) (N := 5) hx hb hts iX2_readDigit_2 hown hK hP 0 rfl rfl 3 (by decide) (hts (.fieldLink RX2 23 "HallSights$RowsText" "last" "I") (List.mem_of_getElem? (i := 1) rfl)) (fun _ h9 => h9) rfl dX2_readDigit_61 ?_
      refine kx_iald hx hb hK hP 2 0 rfl rfl (by omega) (by decide) dX2_readDigit_64 ?_
      refine lv_bipush (v := nI 10) hx hb dX2_readDigit_65 (by decide) ?_
      refine lv_imul hx hb dX2_readDigit_67 ?_
      refine lv_iload_n hx hb dX2_readDigit_68 rfl (lv_at hl 2 rfl) ?_
      refine lv_iadd hx hb dX2_readDigit_69 ?_
      refine va_gets (C := "HallSights$RowsText") hx hb hZ.2.1.1 hS hown (hts (.fieldLink RX2 41 "HallSights$RowsText" "MOST_OF_PART" "[I") (List.mem_of_getElem? (i := 5) rfl)) (fun _ h9 => h9) dX2_readDigit_70 ?_
      refine lv_iload_n hx hb dX2_readDigit_73 rfl (lv_at hl 0 rfl) ?_
      refine kx_ti hx hb hZ.2.1.2 hS (by omega) (by decide) dX2_readDigit_74 ?_
      refine lv_icmp_gt (tgt := 82) hx hb dX2_readDigit_75 (by decide) (fun c_75_8 => ?_) (fun c_75_9 => ?_)
      · have c_75_8 : ((mpA (tt % 3)) : Int32) < (((tn tt) * (nI 10)) + d0) := c_75_8
        refine lv_iconst (v := nI 0) hx hb dX2_readDigit_82 (by decide) ?_
        refine lv_istore_n (lv' := [(3, .int (nI 0)), (2, .int (nI (tt % 3))), (0, .ref (t 0)), (1, .int d0)]) hx hb dX2_readDigit_83 rfl hl (by decide) rfl (fun ls hl => ?_)
        refine lv_aload_n hx hb dX2_readDigit_84 rfl (lv_at hl 2 rfl) ?_
        refine va_get (D := D) (ci := 2) (v := .ref (t 2)) (C := RX2) (T := TX2) (N := 5) hx hb hts iX2_readDigit_2 hown hK hP 0 rfl rfl 2 (by decide) (hts (.fieldLink RX2 15 "HallSights$RowsText" "numbers" "[I") (List.mem_of_getElem? (i := 3) rfl)) (fun _ h9 => h9) rfl dX2_readDigit_85 ?_
        refine lv_aload_n hx hb dX2_readDigit_88 rfl (lv_at hl 2 rfl) ?_
        refine va_get (D := D) (ci := 2) (v := .int (nI tt)) (C := RX2) (T := TX2) (N := 5) hx hb hts iX2_readDigit_2 hown hK hP 0 rfl rfl 3 (by decide) (hts (.fieldLink RX2 23 "HallSights$RowsText" "last" "I") (List.mem_of_getElem? (i := 1) rfl)) (fun _ h9 => h9) rfl dX2_readDigit_89 ?_
        refine lv_aload_n hx hb dX2_readDigit_92 rfl (lv_at hl 2 rfl) ?_
        refine va_get (D := D) (ci := 2) (v := .ref (t 2)) (C := RX2) (T := TX2) (N := 5) hx hb hts iX2_readDigit_2 hown hK hP 0 rfl rfl 2 (by decide) (hts (.fieldLink RX2 15 "HallSights$RowsText" "numbers" "[I") (List.mem_of_getElem? (i := 3) rfl)) (fun _ h9 => h9) rfl dX2_readDigit_93 ?_
        refine lv_aload_n hx hb dX2_readDigit_96 rfl (lv_at hl 2 rfl) ?_
        refine va_get (D := D) (ci := 2) (v := .int (nI tt)) (C := RX2) (T := TX2) (N := 5) hx hb hts iX2_readDigit_2 hown hK hP 0 rfl rfl 3 (by decide) (hts (.fieldLink RX2 23 "HallSights$RowsText" "last" "I") (List.mem_of_getElem? (i := 1) rfl)) (fun _ h9 => h9) rfl dX2_readDigit_97 ?_
        refine kx_iald hx hb hK hP 2 0 rfl rfl (by omega) (by decide) dX2_readDigit_100 ?_
        refine lv_bipush (v := nI 10) hx hb dX2_readDigit_101 (by decide) ?_
        refine lv_imul hx hb dX2_readDigit_103 ?_
        refine lv_iload_n hx hb dX2_readDigit_104 rfl (lv_at hl 3 rfl) ?_
        refine lv_iadd hx hb dX2_readDigit_105 ?_
        refine kx_iast hx hb hK hP hD hS 2 0 rfl rfl (by omega) (by decide) dX2_readDigit_106 (fun H locs hP hD hS => ?_)
        have hP : va_P D vwCl (TW t cC cI ts (nI tl) (upd tn tt (((tn tt) * (nI 10)) + d0)) (nI tt) (bI tb)) H := hP
        have hD : va_D (kA w0) (TW t cC cI ts (nI tl) (upd tn tt (((tn tt) * (nI 10)) + d0)) (nI tt) (bI tb)) := hD
        refine lv_iload_n hx hb dX2_readDigit_107 rfl (lv_at hl 0 rfl) ?_
        have e_10 : (false : Bool) = (dgOk tb tn tt d0) := by first | rfl | omega | (simp [dgOk, dgF1, Int32.not_lt, Int32.not_le, c_11_0, c_53_3, Int32.not_le.mp c_53_3, c_75_8, Int32.not_le.mpr c_75_8]; done) | (simp [dgOk, dgF1, Int32.not_lt, Int32.not_le, c_11_0, c_53_3, Int32.not_le.mp c_53_3, c_75_8, Int32.not_le.mpr c_75_8]; omega) | (revert c_11_0 c_53_3 c_75_8; simp +contextual [dgOk, dgF1, Int32.not_lt, Int32.not_le]; done) | (revert c_11_0 c_53_3 c_75_8; simp +contextual [dgOk, dgF1, Int32.not_lt, Int32.not_le]; omega)
        have ec_tn_11 : ((upd tn tt (((tn tt) * (nI 10)) + d0)) : ZZ) = (dgF1 tb tn tt d0) := by first | rfl | omega | (simp [dgOk, dgF1, Int32.not_lt, Int32.not_le, c_11_0, c_53_3, Int32.not_le.mp c_53_3, c_75_8, Int32.not_le.mpr c_75_8]; done) | (simp [dgOk, dgF1, Int32.not_lt, Int32.not_le, c_11_0, c_53_3, Int32.not_le.mp c_53_3, c_75_8, Int32.not_le.mpr c_75_8]; omega) | (revert c_11_0 c_53_3 c_75_8; simp +contextual [dgOk, dgF1, Int32.not_lt, Int32.not_le]; done) | (revert c_11_0 c_53_3 c_75_8; simp +contextual [dgOk, dgF1, Int32.not_lt, Int32.not_le]; omega)
        have ec_tb_12 : ((bI tb) : Int32) = (bI true) := by first | rfl | omega | (simp [dgOk, dgF1, Int32.not_lt, Int32.not_le, c_11_0, c_53_3, Int32.not_le.mp c_53_3, c_75_8, Int32.not_le.mpr c_75_8]; done) | (simp [dgOk, dgF1, Int32.not_lt, Int32.not_le, c_11_0, c_53_3, Int32.not_le.mp c_53_3, c_75_8, Int32.not_le.mpr c_75_8]; omega) | (revert c_11_0 c_53_3 c_75_8; simp +contextual [dgOk, dgF1, Int32.not_lt, Int32.not_le]; done) | (revert c_11_0 c_53_3 c_75_8; simp +contextual [dgOk, dgF1, Int32.not_lt, Int32.not_le]; omega)
        have ew_13 : (TW t cC cI ts (nI tl) (upd tn tt (((tn tt) * (nI 10)) + d0)) (nI tt) (bI tb) : va_W) = (TW t cC cI ts (nI tl) (dgF1 tb tn tt d0) (nI tt) (bI true)) := tw_c rfl rfl ec_tn_11 rfl ec_tb_12
        rw [ew_13] at hP hD
        subst hw0
        exact kq_zret hx hb hrt hlocks (congrArg bI e_10) hP hD hS dX2_readDigit_108
      · have c_75_9 : ¬ ((mpA (tt % 3)) : Int32) < (((tn tt) * (nI 10)) + d0) := c_75_9
        refine lv_iconst (v := nI 1) hx hb dX2_readDigit_78 (by decide) ?_
        refine lv_goto (tgt := 83) hx hb dX2_readDigit_79 (by decide) ?_
        refine lv_istore_n (lv' := [(3, .int (nI 1)), (2, .int (nI (tt % 3))), (0, .ref (t 0)), (1, .int d0)]) hx hb dX2_readDigit_83 rfl hl (by decide) rfl (fun ls hl => ?_)
        refine lv_aload_n hx hb dX2_readDigit_84 rfl (lv_at hl 2 rfl) ?_
        refine va_get (D := D) (ci := 2) (v := .ref (t 2)) (C := RX2) (T := TX2) (N := 5) hx hb hts iX2_readDigit_2 hown hK hP 0 rfl rfl 2 (by decide) (hts (.fieldLink RX2 15 "HallSights$RowsText" "numbers" "[I") (List.mem_of_getElem? (i := 3) rfl)) (fun _ h9 => h9) rfl dX2_readDigit_85 ?_
        refine lv_aload_n hx hb dX2_readDigit_88 rfl (lv_at hl 2 rfl) ?_
        refine va_get (D := D) (ci := 2) (v := .int (nI tt)) (C := RX2) (T := TX2) (N := 5) hx hb hts iX2_readDigit_2 hown hK hP 0 rfl rfl 3 (by decide) (hts (.fieldLink RX2 23 "HallSights$RowsText" "last" "I") (List.mem_of_getElem? (i := 1) rfl)) (fun _ h9 => h9) rfl dX2_readDigit_89 ?_
        refine lv_aload_n hx hb dX2_readDigit_92 rfl (lv_at hl 2 rfl) ?_
        refine va_get (D := D) (ci := 2) (v := .ref (t 2)) (C := RX2) (T := TX2) (N := 5) hx hb hts iX2_readDigit_2 hown hK hP 0 rfl rfl 2 (by decide) (hts (.fieldLink RX2 15 "HallSights$RowsText" "numbers" "[I") (List.mem_of_getElem? (i := 3) rfl)) (fun _ h9 => h9) rfl dX2_readDigit_93 ?_
        refine lv_aload_n hx hb dX2_readDigit_96 rfl (lv_at hl 2 rfl) ?_
        refine va_get (D := D) (ci := 2) (v := .int (nI tt)) (C := RX2) (T := TX2) (N := 5) hx hb hts iX2_readDigit_2 hown hK hP 0 rfl rfl 3 (by decide) (hts (.fieldLink RX2 23 "HallSights$RowsText" "last" "I") (List.mem_of_getElem? (i := 1) rfl)) (fun _ h9 => h9) rfl dX2_readDigit_97 ?_
        refine kx_iald hx hb hK hP 2 0 rfl rfl (by omega) (by decide) dX2_readDigit_100 ?_
        refine lv_bipush (v := nI 10) hx hb dX2_readDigit_101 (by decide) ?_
        refine lv_imul hx hb dX2_readDigit_103 ?_
        refine lv_iload_n hx hb dX2_readDigit_104 rfl (lv_at hl 3 rfl) ?_
        refine lv_iadd hx hb dX2_readDigit_105 ?_
        refine kx_iast hx hb hK hP hD hS 2 0 rfl rfl (by omega) (by decide) dX2_readDigit_106 (fun H locs hP hD hS => ?_)
        have hP : va_P D vwCl (TW t cC cI ts (nI tl) (upd tn tt (((tn tt) * (nI 10)) + d0)) (nI tt) (bI tb)) H := hP
        have hD : va_D (kA w0) (TW t cC cI ts (nI tl) (upd tn tt (((tn tt) * (nI 10)) + d0)) (nI tt) (bI tb)) := hD
        refine lv_iload_n hx hb dX2_readDigit_107 rfl (lv_at hl 0 rfl) ?_
        have e_14 : (true : Bool) = (dgOk tb tn tt d0) := by first | rfl | omega | (simp [dgOk, dgF1, Int32.not_lt, Int32.not_le, c_11_0, c_53_3, Int32.not_le.mp c_53_3, c_75_9, Int32.not_lt.mp c_75_9]; done) | (simp [dgOk, dgF1, Int32.not_lt, Int32.not_le, c_11_0, c_53_3, Int32.not_le.mp c_53_3, c_75_9, Int32.not_lt.mp c_75_9]; omega) | (revert c_11_0 c_53_3 c_75_9; simp +contextual [dgOk, dgF1, Int32.not_lt, Int32.not_le]; done) | (revert c_11_0 c_53_3 c_75_9; simp +contextual [dgOk, dgF1, Int32.not_lt, Int32.not_le]; omega)
        have ec_tn_15 : ((upd tn tt (((tn tt) * (nI 10)) + d0)) : ZZ) = (dgF1 tb tn tt d0) := by first | rfl | omega | (simp [dgOk, dgF1, Int32.not_lt, Int32.not_le, c_11_0, c_53_3, Int32.not_le.mp c_53_3, c_75_9, Int32.not_lt.mp c_75_9]; done) | (simp [dgOk, dgF1, Int32.not_lt, Int32.not_le, c_11_0, c_53_3, Int32.not_le.mp c_53_3, c_75_9, Int32.not_lt.mp c_75_9]; omega) | (revert c_11_0 c_53_3 c_75_9; simp +contextual [dgOk, dgF1, Int32.not_lt, Int32.not_le]; done) | (revert c_11_0 c_53_3 c_75_9; simp +contextual [dgOk, dgF1, Int32.not_lt, Int32.not_le]; omega)
        have ec_tb_16 : ((bI tb) : Int32) = (bI true) := by first | rfl | omega | (simp [dgOk, dgF1, Int32.not_lt, Int32.not_le, c_11_0, c_53_3, Int32.not_le.mp c_53_3, c_75_9, Int32.not_lt.mp c_75_9]; done) | (simp [dgOk, dgF1, Int32.not_lt, Int32.not_le, c_11_0, c_53_3, Int32.not_le.mp c_53_3, c_75_9, Int32.not_lt.mp c_75_9]; omega) | (revert c_11_0 c_53_3 c_75_9; simp +contextual [dgOk, dgF1, Int32.not_lt, Int32.not_le]; done) | (revert c_11_0 c_53_3 c_75_9; simp +contextual [dgOk, dgF1, Int32.not_lt, Int32.not_le]; omega)
        have ew_17 : (TW t cC cI ts (nI tl) (upd tn tt (((tn tt) * (nI 10)) + d0)) (nI tt) (bI tb) : va_W) = (TW t cC cI ts (nI tl) (dgF1 tb tn tt d0) (nI tt) (bI true)) := tw_c rfl rfl ec_tn_15 rfl ec_tb_16
        rw [ew_17] at hP hD
        subst hw0
        exact kq_zret hx hb hrt hlocks (congrArg bI e_14) hP hD hS dX2_readDigit_108
  · refine lv_aload_n hx hb dX2_readDigit_14 rfl (lv_at hl 1 rfl) ?_
    refine va_get (D := D) (ci := 2) (v := .ref (t 2)) (C := RX2) (T := TX2) (N := 5) hx hb hts iX2_readDigit_2 hown hK hP 0 rfl rfl 2 (by decide) (hts (.fieldLink RX2 15 "HallSights$RowsText" "numbers" "[I") (List.mem_of_getElem? (i := 3) rfl)) (fun _ h9 => h9) rfl dX2_readDigit_15 ?_
    refine lv_aload_n hx hb dX2_readDigit_18 rfl (lv_at hl 1 rfl) ?_
    refine va_get (D := D) (ci := 2) (v := .int (nI tt)) (C := RX2) (T := TX2) (N := 5) hx hb hts iX2_readDigit_2 hown hK hP 0 rfl rfl 3 (by decide) (hts (.fieldLink RX2 23 "HallSights$RowsText" "last" "I") (List.mem_of_getElem? (i := 1) rfl)) (fun _ h9 => h9) rfl dX2_readDigit_19 ?_
    refine lv_iload_n hx hb dX2_readDigit_22 rfl (lv_at hl 2 rfl) ?_
    refine kx_iast hx hb hK hP hD hS 2 0 rfl rfl (by omega) (by decide) dX2_readDigit_23 (fun H locs hP hD hS => ?_)
    have hP : va_P D vwCl (TW t cC cI ts (nI tl) (upd tn tt d0) (nI tt) (bI tb)) H := hP
    have hD : va_D (kA w0) (TW t cC cI ts (nI tl) (upd tn tt d0) (nI tt) (bI tb)) := hD
    refine lv_aload_n hx hb dX2_readDigit_24 rfl (lv_at hl 1 rfl) ?_
    refine lv_iconst (v := nI 1) hx hb dX2_readDigit_25 (by decide) ?_
    refine va_put (D := D) (ci := 2) (v := .int (bI true)) (ty := .boolean) (C := RX2) (T := TX2) (N := 5) hx hb hts iX2_readDigit_2 tyX2 tyX2_ok nmX2 hown hK hP hD hS 0 rfl rfl 4 (by decide) (hts (.fieldLink RX2 26 "HallSights$RowsText" "begun" "Z") (List.mem_of_getElem? (i := 2) rfl)) (fun _ h9 => h9) rfl (by decide +kernel) (by decide) (by decide) (Nat.le_of_ble_eq_true rfl) dX2_readDigit_26 (fun H locs hP hD hS => ?_)
    have hP : va_P D vwCl (TW t cC cI ts (nI tl) (upd tn tt d0) (nI tt) (bI true)) H := hP
    have hD : va_D (kA w0) (TW t cC cI ts (nI tl) (upd tn tt d0) (nI tt) (bI true)) := hD
    refine lv_iload_n hx hb dX2_readDigit_29 rfl (lv_at hl 2 rfl) ?_
    refine va_gets (C := "HallSights$RowsText") hx hb hZ.1.1 hS hown (hts (.fieldLink RX2 38 "HallSights$RowsText" "LEAST_OF_PART" "[I") (List.mem_of_getElem? (i := 4) rfl)) (fun _ h9 => h9) dX2_readDigit_30 ?_
    refine lv_iload_n hx hb dX2_readDigit_33 rfl (lv_at hl 0 rfl) ?_
    refine kx_ti hx hb hZ.1.2 hS (by omega) (by decide) dX2_readDigit_34 ?_
    refine lv_icmp_lt (tgt := 42) hx hb dX2_readDigit_35 (by decide) (fun c_35_18 => ?_) (fun c_35_19 => ?_)
    · have c_35_18 : (d0 : Int32) < (lpA (tt % 3)) := c_35_18
      refine lv_iconst (v := nI 0) hx hb dX2_readDigit_42 (by decide) ?_
      have e_20 : (false : Bool) = (dgOk tb tn tt d0) := by first | rfl | omega | (simp [dgOk, dgF1, Int32.not_lt, Int32.not_le, c_11_1, c_35_18, Int32.not_le.mpr c_35_18]; done) | (simp [dgOk, dgF1, Int32.not_lt, Int32.not_le, c_11_1, c_35_18, Int32.not_le.mpr c_35_18]; omega) | (revert c_11_1 c_35_18; simp +contextual [dgOk, dgF1, Int32.not_lt, Int32.not_le]; done) | (revert c_11_1 c_35_18; simp +contextual [dgOk, dgF1, Int32.not_lt, Int32.not_le]; omega)
      have ec_tn_21 : ((upd tn tt d0) : ZZ) = (dgF1 tb tn tt d0) := by first | rfl | omega | (simp [dgOk, dgF1, Int32.not_lt, Int32.not_le, c_11_1, c_35_18, Int32.not_le.mpr c_35_18]; done) | (simp [dgOk, dgF1, Int32.not_lt, Int32.not_le, c_11_1, c_35_18, Int32.not_le.mpr c_35_18]; omega) | (revert c_11_1 c_35_18; simp +contextual [dgOk, dgF1, Int32.not_lt, Int32.not_le]; done) | (revert c_11_1 c_35_18; simp +contextual [dgOk, dgF1, Int32.not_lt, Int32.not_le]; omega)
      have ew_22 : (TW t cC cI ts (nI tl) (upd tn tt d0) (nI tt) (bI true) : va_W) = (TW t cC cI ts (nI tl) (dgF1 tb tn tt d0) (nI tt) (bI true)) := tw_c rfl rfl ec_tn_21 rfl rfl
      rw [ew_22] at hP hD
      subst hw0
      exact kq_zret hx hb hrt hlocks (congrArg bI e_20) hP hD hS dX2_readDigit_43
    · have c_35_19 : ¬ (d0 : Int32) < (lpA (tt % 3)) := c_35_19
      refine lv_iconst (v := nI 1) hx hb dX2_readDigit_38 (by decide) ?_
      refine lv_goto (tgt := 43) hx hb dX2_readDigit_39 (by decide) ?_
      have e_23 : (true : Bool) = (dgOk tb tn tt d0) := by first | rfl | omega | (simp [dgOk, dgF1, Int32.not_lt, Int32.not_le, c_11_1, c_35_19, Int32.not_lt.mp c_35_19]; done) | (simp [dgOk, dgF1, Int32.not_lt, Int32.not_le, c_11_1, c_35_19, Int32.not_lt.mp c_35_19]; omega) | (revert c_11_1 c_35_19; simp +contextual [dgOk, dgF1, Int32.not_lt, Int32.not_le]; done) | (revert c_11_1 c_35_19; simp +contextual [dgOk, dgF1, Int32.not_lt, Int32.not_le]; omega)
      have ec_tn_24 : ((upd tn tt d0) : ZZ) = (dgF1 tb tn tt d0) := by first | rfl | omega | (simp [dgOk, dgF1, Int32.not_lt, Int32.not_le, c_11_1, c_35_19, Int32.not_lt.mp c_35_19]; done) | (simp [dgOk, dgF1, Int32.not_lt, Int32.not_le, c_11_1, c_35_19, Int32.not_lt.mp c_35_19]; omega) | (revert c_11_1 c_35_19; simp +contextual [dgOk, dgF1, Int32.not_lt, Int32.not_le]; done) | (revert c_11_1 c_35_19; simp +contextual [dgOk, dgF1, Int32.not_lt, Int32.not_le]; omega)
      have ew_25 : (TW t cC cI ts (nI tl) (upd tn tt d0) (nI tt) (bI true) : va_W) = (TW t cC cI ts (nI tl) (dgF1 tb tn tt d0) (nI tt) (bI true)) := tw_c rfl rfl ec_tn_24 rfl rfl
      rw [ew_25] at hP hD
      subst hw0
      exact kq_zret hx hb hrt hlocks (congrArg bI e_23) hP hD hS dX2_readDigit_43
set_option maxRecDepth 20000 in
theorem iX2_readEnd_2 : ∀ w ∈ wsX20, w ∈ wsX2_readEnd := by decide +kernel
set_option maxHeartbeats 4000000 in
set_option maxRecDepth 100000 in
theorem c_X2_readEnd (l : Launch) (D : va_G) (cI cC cH cL : ClassId) (y : Nat → Nat) (t : Nat → Nat) (ts tn : ZZ) (tl tt : Nat) (tb : Bool) (c0 : Int32) (ht : tt < 61) : Met l yX2_readEnd wsX2_readEnd ({ frames := 0, cells := 0, slots := 0, locals := 0 }) (kwz y [.ref (t 0), .int c0] D (TW t cC cI ts (nI tl) tn (nI tt) (bI tb)) (kT cI cC cH cL)) (kq D (TW t cC cI ts (nI tl) tn (nI tt) (bI tb)) (TW t cC cI ts (nI tl) tn (nI (if enOk tb tt c0 = true then tt + 1 else tt)) (bI (if enOk tb tt c0 = true then false else tb))) (.returned (some (.int (bI (enOk tb tt c0)))))) 0 0 (kA (TW t cC cI ts (nI tl) tn (nI tt) (bI tb))) := by
  refine Met.ofW (cc := cX2_readEnd) (maxL := 2) (ret := (some .boolean)) (by decide) rfl ?_
  intro p e s m args below meth c s₁ B hml hv
  obtain ⟨⟨rfl, hP, hK, hD0⟩, hZ⟩ := hv
  have hx := B.exec
  have hb := B.bytes
  have hrt := B.returns
  have hts := atoms_spec (ws := wsX2_readEnd) B.pre
  have hown : s.vm.findClass RX2 = some m.cls := findClass_of_methodNamed B.named
  have hlocks := B.notSynchronized
  have hl := lv_entry ([.ref (t 0), .int c0]) (n := 2) (Nat.le_of_ble_eq_true rfl)
  rw [lg_entry_eq]
  generalize (lg_sl ([.ref (t 0), .int c0]) ++ List.replicate (2 - (lg_sl ([.ref (t 0), .int c0])).length) Slot.unset).toArray = ls at hl ⊢
  have hl : lv_has ls 2 [(0, .ref (t 0)), (1, .int c0)] := hl
  have hD := kA_self hD0
  obtain ⟨w0, hw0⟩ : ∃ w : va_W, w = TW t cC cI ts (nI tl) tn (nI tt) (bI tb) := ⟨_, rfl⟩
  have hD : va_D (kA w0) (TW t cC cI ts (nI tl) tn (nI tt) (bI tb)) := by rw [hw0]; exact hD
  have hS : va_S (kA w0) s.heap s.heap [] := va_S.rf
  have hZ : zZ y (kA w0) s s.heap := by rw [hw0]; exact hZ
  rw [show kA (TW t cC cI ts (nI tl) tn (nI tt) (bI tb)) = kA w0 from by rw [hw0], show kq D (TW t cC cI ts (nI tl) tn (nI tt) (bI tb)) = kq D w0 from by rw [hw0]]
  have hP : va_P D vwCl (TW t cC cI ts (nI tl) tn (nI tt) (bI tb)) s.heap := hP
  refine lv_aload_n hx hb dX2_readEnd_0 rfl (lv_at hl 0 rfl) ?_
  refine va_get (D := D) (ci := 2) (v := .int (bI tb)) (C := RX2) (T := TX2) (N := 5) hx hb hts iX2_readEnd_2 hown hK hP 0 rfl rfl 4 (by decide) (hts (.fieldLink RX2 26 "HallSights$RowsText" "begun" "Z") (List.mem_of_getElem? (i := 1) rfl)) (fun _ h9 => h9) rfl dX2_readEnd_1 ?_
  refine kx_if_eqb (tgt := 21) hx hb dX2_readEnd_4 (by decide) (fun c_4_0 => ?_) (fun c_4_1 => ?_)
  · refine lv_iconst (v := nI 0) hx hb dX2_readEnd_21 (by decide) ?_
    have e_2 : (false : Bool) = (enOk tb tt c0) := by first | rfl | omega | (simp [enOk, Int32.not_lt, Int32.not_le, c_4_0]; done) | (simp [enOk, Int32.not_lt, Int32.not_le, c_4_0]; omega) | (revert c_4_0; simp +contextual [enOk, Int32.not_lt, Int32.not_le]; done) | (revert c_4_0; simp +contextual [enOk, Int32.not_lt, Int32.not_le]; omega)
    have ec_tt_3 : ((nI tt) : Int32) = (nI (if enOk tb tt c0 = true then tt + 1 else tt)) := by first | rfl | omega | (simp [enOk, Int32.not_lt, Int32.not_le, c_4_0]; done) | (simp [enOk, Int32.not_lt, Int32.not_le, c_4_0]; omega) | (revert c_4_0; simp +contextual [enOk, Int32.not_lt, Int32.not_le]; done) | (revert c_4_0; simp +contextual [enOk, Int32.not_lt, Int32.not_le]; omega)
    have ec_tb_4 : ((bI tb) : Int32) = (bI (if enOk tb tt c0 = true then false else tb)) := by first | rfl | omega | (simp [enOk, Int32.not_lt, Int32.not_le, c_4_0]; done) | (simp [enOk, Int32.not_lt, Int32.not_le, c_4_0]; omega) | (revert c_4_0; simp +contextual [enOk, Int32.not_lt, Int32.not_le]; done) | (revert c_4_0; simp +contextual [enOk, Int32.not_lt, Int32.not_le]; omega)
    have ew_5 : (TW t cC cI ts (nI tl) tn (nI tt) (bI tb) : va_W) = (TW t cC cI ts (nI tl) tn (nI (if enOk tb tt c0 = true then tt + 1 else tt)) (bI (if enOk tb tt c0 = true then false else tb))) := tw_c rfl rfl rfl ec_tt_3 ec_tb_4
    rw [ew_5] at hP hD
    subst hw0
    exact kq_zret hx hb hrt hlocks (congrArg bI e_2) hP hD hS dX2_readEnd_22
  · refine lv_iload_n hx hb dX2_readEnd_7 rfl (lv_at hl 1 rfl) ?_
    refine va_gets (C := "HallSights$RowsText") hx hb hZ.2.2.1.1 hS hown (hts (.fieldLink RX2 44 "HallSights$RowsText" "END_OF_PART" "[C") (List.mem_of_getElem? (i := 2) rfl)) (fun _ h9 => h9) dX2_readEnd_8 ?_
    refine lv_aload_n hx hb dX2_readEnd_11 rfl (lv_at hl 0 rfl) ?_
    refine va_get (D := D) (ci := 2) (v := .int (nI tt)) (C := RX2) (T := TX2) (N := 5) hx hb hts iX2_readEnd_2 hown hK hP 0 rfl rfl 3 (by decide) (hts (.fieldLink RX2 23 "HallSights$RowsText" "last" "I") (List.mem_of_getElem? (i := 3) rfl)) (fun _ h9 => h9) rfl dX2_readEnd_12 ?_
    refine lv_iconst (v := nI 3) hx hb dX2_readEnd_15 (by decide) ?_
    refine kx_irem hx hb (by omega) (by omega) (by omega) dX2_readEnd_16 ?_
    refine kx_tc hx hb hZ.2.2.1.2 hS (by omega) (by decide) dX2_readEnd_17 ?_
    refine lv_icmp_eq (tgt := 23) hx hb dX2_readEnd_18 (by decide) (fun c_18_6 => ?_) (fun c_18_7 => ?_)
    · have c_18_6 : (c0 : Int32) = (epA (tt % 3)) := c_18_6
      refine lv_aload_n hx hb dX2_readEnd_23 rfl (lv_at hl 0 rfl) ?_
      refine lv_dup hx hb dX2_readEnd_24 rfl ?_
      refine va_get (D := D) (ci := 2) (v := .int (nI tt)) (C := RX2) (T := TX2) (N := 5) hx hb hts iX2_readEnd_2 hown hK hP 0 rfl rfl 3 (by decide) (hts (.fieldLink RX2 23 "HallSights$RowsText" "last" "I") (List.mem_of_getElem? (i := 3) rfl)) (fun _ h9 => h9) rfl dX2_readEnd_25 ?_
      refine lv_iconst (v := nI 1) hx hb dX2_readEnd_28 (by decide) ?_
      refine kx_iadd hx hb dX2_readEnd_29 ?_
      refine va_put (D := D) (ci := 2) (v := .int (nI (tt + 1))) (ty := .int) (C := RX2) (T := TX2) (N := 5) hx hb hts iX2_readEnd_2 tyX2 tyX2_ok nmX2 hown hK hP hD hS 0 rfl rfl 3 (by decide) (hts (.fieldLink RX2 23 "HallSights$RowsText" "last" "I") (List.mem_of_getElem? (i := 3) rfl)) (fun _ h9 => h9) rfl (by decide +kernel) rfl rfl (Nat.le_of_ble_eq_true rfl) dX2_readEnd_30 (fun H locs hP hD hS => ?_)
      have hP : va_P D vwCl (TW t cC cI ts (nI tl) tn (nI (tt + 1)) (bI tb)) H := hP
      have hD : va_D (kA w0) (TW t cC cI ts (nI tl) tn (nI (tt + 1)) (bI tb)) := hD
      refine lv_aload_n hx hb dX2_readEnd_33 rfl (lv_at hl 0 rfl) ?_
      refine lv_iconst (v := nI 0) hx hb dX2_readEnd_34 (by decide) ?_
      refine va_put (D := D) (ci := 2) (v := .int (bI false)) (ty := .boolean) (C := RX2) (T := TX2) (N := 5) hx hb hts iX2_readEnd_2 tyX2 tyX2_ok nmX2 hown hK hP hD hS 0 rfl rfl 4 (by decide) (hts (.fieldLink RX2 26 "HallSights$RowsText" "begun" "Z") (List.mem_of_getElem? (i := 1) rfl)) (fun _ h9 => h9) rfl (by decide +kernel) (by decide) (by decide) (Nat.le_of_ble_eq_true rfl) dX2_readEnd_35 (fun H locs hP hD hS => ?_)
      have hP : va_P D vwCl (TW t cC cI ts (nI tl) tn (nI (tt + 1)) (bI false)) H := hP
      have hD : va_D (kA w0) (TW t cC cI ts (nI tl) tn (nI (tt + 1)) (bI false)) := hD
      refine lv_iconst (v := nI 1) hx hb dX2_readEnd_38 (by decide) ?_
      have e_8 : (true : Bool) = (enOk tb tt c0) := by first | rfl | omega | (simp [enOk, Int32.not_lt, Int32.not_le, c_4_1, c_18_6]; done) | (simp [enOk, Int32.not_lt, Int32.not_le, c_4_1, c_18_6]; omega) | (revert c_4_1 c_18_6; simp +contextual [enOk, Int32.not_lt, Int32.not_le]; done) | (revert c_4_1 c_18_6; simp +contextual [enOk, Int32.not_lt, Int32.not_le]; omega)
      have ec_tt_9 : ((nI (tt + 1)) : Int32) = (nI (if enOk tb tt c0 = true then tt + 1 else tt)) := by first | rfl | omega | (simp [enOk, Int32.not_lt, Int32.not_le, c_4_1, c_18_6]; done) | (simp [enOk, Int32.not_lt, Int32.not_le, c_4_1, c_18_6]; omega) | (revert c_4_1 c_18_6; simp +contextual [enOk, Int32.not_lt, Int32.not_le]; done) | (revert c_4_1 c_18_6; simp +contextual [enOk, Int32.not_lt, Int32.not_le]; omega)
      have ec_tb_10 : ((bI false) : Int32) = (bI (if enOk tb tt c0 = true then false else tb)) := by first | rfl | omega | (simp [enOk, Int32.not_lt, Int32.not_le, c_4_1, c_18_6]; done) | (simp [enOk, Int32.not_lt, Int32.not_le, c_4_1, c_18_6]; omega) | (revert c_4_1 c_18_6; simp +contextual [enOk, Int32.not_lt, Int32.not_le]; done) | (revert c_4_1 c_18_6; simp +contextual [enOk, Int32.not_lt, Int32.not_le]; omega)
      have ew_11 : (TW t cC cI ts (nI tl) tn (nI (tt + 1)) (bI false) : va_W) = (TW t cC cI ts (nI tl) tn (nI (if enOk tb tt c0 = true then tt + 1 else tt)) (bI (if enOk tb tt c0 = true then false else tb))) := tw_c rfl rfl rfl ec_tt_9 ec_tb_10
      rw [ew_11] at hP hD
      subst hw0
      exact kq_zret hx hb hrt hlocks (congrArg bI e_8) hP hD hS dX2_readEnd_39
    · have c_18_7 : ¬ (c0 : Int32) = (epA (tt % 3)) := c_18_7
      refine lv_iconst (v := nI 0) hx hb dX2_readEnd_21 (by decide) ?_
      have e_12 : (false : Bool) = (enOk tb tt c0) := by first | rfl | omega | (simp [enOk, Int32.not_lt, Int32.not_le, c_4_1, c_18_7]; done) | (simp [enOk, Int32.not_lt, Int32.not_le, c_4_1, c_18_7]; omega) | (revert c_4_1 c_18_7; simp +contextual [enOk, Int32.not_lt, Int32.not_le]; done) | (revert c_4_1 c_18_7; simp +contextual [enOk, Int32.not_lt, Int32.not_le]; omega)
      have ec_tt_13 : ((nI tt) : Int32) = (nI (if enOk tb tt c0 = true then tt + 1 else tt)) := by first | rfl | omega | (simp [enOk, Int32.not_lt, Int32.not_le, c_4_1, c_18_7]; done) | (simp [enOk, Int32.not_lt, Int32.not_le, c_4_1, c_18_7]; omega) | (revert c_4_1 c_18_7; simp +contextual [enOk, Int32.not_lt, Int32.not_le]; done) | (revert c_4_1 c_18_7; simp +contextual [enOk, Int32.not_lt, Int32.not_le]; omega)
      have ec_tb_14 : ((bI tb) : Int32) = (bI (if enOk tb tt c0 = true then false else tb)) := by first | rfl | omega | (simp [enOk, Int32.not_lt, Int32.not_le, c_4_1, c_18_7]; done) | (simp [enOk, Int32.not_lt, Int32.not_le, c_4_1, c_18_7]; omega) | (revert c_4_1 c_18_7; simp +contextual [enOk, Int32.not_lt, Int32.not_le]; done) | (revert c_4_1 c_18_7; simp +contextual [enOk, Int32.not_lt, Int32.not_le]; omega)
      have ew_15 : (TW t cC cI ts (nI tl) tn (nI tt) (bI tb) : va_W) = (TW t cC cI ts (nI tl) tn (nI (if enOk tb tt c0 = true then tt + 1 else tt)) (bI (if enOk tb tt c0 = true then false else tb))) := tw_c rfl rfl rfl ec_tt_13 ec_tb_14
      rw [ew_15] at hP hD
      subst hw0
      exact kq_zret hx hb hrt hlocks (congrArg bI e_12) hP hD hS dX2_readEnd_22
set_option maxRecDepth 20000 in
theorem iX2_read_2 : ∀ w ∈ wsX20, w ∈ wsX2_read := by decide +kernel
set_option maxHeartbeats 4000000 in
set_option maxRecDepth 100000 in
theorem c_X2_read (l : Launch) (D : va_G) (cI cC cH cL : ClassId) (y : Nat → Nat) (t : Nat → Nat) (ts tn : ZZ) (tl tt : Nat) (tb : Bool)  (hl : tl ≤ 60) : Met l yX2_read wsX2_read ({ frames := 1, cells := 0, slots := 0, locals := 23 }) (kwz y [.ref (t 0)] D (TW t cC cI ts (nI tl) tn (nI tt) (bI tb)) (kT cI cC cH cL)) (kq D (TW t cC cI ts (nI tl) tn (nI tt) (bI tb)) (TW t cC cI ts (nI tl) ((finC ts tn tl).2.2) (nI ((finC ts tn tl).1)) (bI ((finC ts tn tl).2.1))) (.returned (some (.int (nI (eC ts tn tl)))))) 0 0 (kA (TW t cC cI ts (nI tl) tn (nI tt) (bI tb))) := by
  refine Met.ofW (cc := cX2_read) (maxL := 4) (ret := (some .int)) (by decide) rfl ?_
  intro p e s m args below meth c s₁ B hml hv
  obtain ⟨⟨rfl, hP, hK, hD0⟩, hZ⟩ := hv
  have hx := B.exec
  have hb := B.bytes
  have hrt := B.returns
  have hts := atoms_spec (ws := wsX2_read) B.pre
  have hown : s.vm.findClass RX2 = some m.cls := findClass_of_methodNamed B.named
  have hlocks := B.notSynchronized
  have hl := lv_entry ([.ref (t 0)]) (n := 4) (Nat.le_of_ble_eq_true rfl)
  rw [lg_entry_eq]
  generalize (lg_sl ([.ref (t 0)]) ++ List.replicate (4 - (lg_sl ([.ref (t 0)])).length) Slot.unset).toArray = ls at hl ⊢
  have hl : lv_has ls 4 [(0, .ref (t 0))] := hl
  have hD := kA_self hD0
  obtain ⟨w0, hw0⟩ : ∃ w : va_W, w = TW t cC cI ts (nI tl) tn (nI tt) (bI tb) := ⟨_, rfl⟩
  have hD : va_D (kA w0) (TW t cC cI ts (nI tl) tn (nI tt) (bI tb)) := by rw [hw0]; exact hD
  have hS : va_S (kA w0) s.heap s.heap [] := va_S.rf
  have hZ : zZ y (kA w0) s s.heap := by rw [hw0]; exact hZ
  rw [show kA (TW t cC cI ts (nI tl) tn (nI tt) (bI tb)) = kA w0 from by rw [hw0], show kq D (TW t cC cI ts (nI tl) tn (nI tt) (bI tb)) = kq D w0 from by rw [hw0]]
  have hP : va_P D vwCl (TW t cC cI ts (nI tl) tn (nI tt) (bI tb)) s.heap := hP
  refine lv_aload_n hx hb dX2_read_0 rfl (lv_at hl 0 rfl) ?_
  refine lv_iconst (v := nI 0) hx hb dX2_read_1 (by decide) ?_
  refine va_put (D := D) (ci := 2) (v := .int (nI 0)) (ty := .int) (C := RX2) (T := TX2) (N := 5) hx hb hts iX2_read_2 tyX2 tyX2_ok nmX2 hown hK hP hD hS 0 rfl rfl 3 (by decide) (hts (.fieldLink RX2 23 "HallSights$RowsText" "last" "I") (List.mem_of_getElem? (i := 1) rfl)) (fun _ h9 => h9) rfl (by decide +kernel) rfl rfl (Nat.le_of_ble_eq_true rfl) dX2_read_2 (fun H locs hP hD hS => ?_)
  have hP : va_P D vwCl (TW t cC cI ts (nI tl) tn (nI 0) (bI tb)) H := hP
  have hD : va_D (kA w0) (TW t cC cI ts (nI tl) tn (nI 0) (bI tb)) := hD
  refine lv_aload_n hx hb dX2_read_5 rfl (lv_at hl 0 rfl) ?_
  refine lv_iconst (v := nI 0) hx hb dX2_read_6 (by decide) ?_
  refine va_put (D := D) (ci := 2) (v := .int (bI false)) (ty := .boolean) (C := RX2) (T := TX2) (N := 5) hx hb hts iX2_read_2 tyX2 tyX2_ok nmX2 hown hK hP hD hS 0 rfl rfl 4 (by decide) (hts (.fieldLink RX2 26 "HallSights$RowsText" "begun" "Z") (List.mem_of_getElem? (i := 2) rfl)) (fun _ h9 => h9) rfl (by decide +kernel) (by decide) (by decide) (Nat.le_of_ble_eq_true rfl) dX2_read_7 (fun H locs hP hD hS => ?_)
  have hP : va_P D vwCl (TW t cC cI ts (nI tl) tn (nI 0) (bI false)) H := hP
  have hD : va_D (kA w0) (TW t cC cI ts (nI tl) tn (nI 0) (bI false)) := hD
  refine lv_iconst (v := nI 0) hx hb dX2_read_10 (by decide) ?_
  refine lv_istore_n (lv' := [(1, .int (nI 0)), (0, .ref (t 0))]) hx hb dX2_read_11 rfl hl (by decide) rfl (fun ls hl => ?_)
  have ec_tn_0 : (tn : ZZ) = ((runC ts tn 0).2.2) := by first | rfl | omega | (simp [Int32.not_lt, Int32.not_le]; done) | (simp [Int32.not_lt, Int32.not_le]; omega)
  have ec_tt_1 : ((nI 0) : Int32) = (nI ((runC ts tn 0).1)) := by first | rfl | omega | (simp [Int32.not_lt, Int32.not_le]; done) | (simp [Int32.not_lt, Int32.not_le]; omega)
  have ec_tb_2 : ((bI false) : Int32) = (bI ((runC ts tn 0).2.1)) := by first | rfl | omega | (simp [Int32.not_lt, Int32.not_le]; done) | (simp [Int32.not_lt, Int32.not_le]; omega)
  have ew_3 : (TW t cC cI ts (nI tl) tn (nI 0) (bI false) : va_W) = (TW t cC cI ts (nI tl) ((runC ts tn 0).2.2) (nI ((runC ts tn 0).1)) (bI ((runC ts tn 0).2.1))) := tw_c rfl rfl ec_tn_0 ec_tt_1 ec_tb_2
  rw [ew_3] at hP hD
  refine kx_upW (fun k H locs ls => (va_P D vwCl (TW t cC cI ts (nI tl) ((runC ts tn k).2.2) (nI ((runC ts tn k).1)) (bI ((runC ts tn k).2.1))) H ∧ va_D (kA w0) (TW t cC cI ts (nI tl) ((runC ts tn k).2.2) (nI ((runC ts tn k).1)) (bI ((runC ts tn k).2.1))) ∧ va_S (kA w0) s.heap H locs) ∧ lv_has ls 4 [(0, .ref (t 0)), (1, .int (nI k))] ∧ (eC ts tn k = k)) (0) (tl) (by omega) _ _ ls ⟨⟨hP, hD, hS⟩, ⟨(lv_sub hl [1, 0] rfl), rfl⟩⟩ ?_
  clear hP hD hS
  intro ik H locs ls hikl hikh hp ih12
  obtain ⟨⟨hP, hD, hS⟩, hp⟩ := hp
  obtain ⟨hl, hinv12⟩ := hp
  have hr12 := runC_1 ts tn ik
  refine lv_iload_n hx hb dX2_read_12 rfl (lv_at hl 1 rfl) ?_
  refine lv_aload_n hx hb dX2_read_13 rfl (lv_at hl 0 rfl) ?_
  refine va_get (D := D) (ci := 2) (v := .int (nI tl)) (C := RX2) (T := TX2) (N := 5) hx hb hts iX2_read_2 hown hK hP 0 rfl rfl 1 (by decide) (hts (.fieldLink RX2 19 "HallSights$RowsText" "length" "I") (List.mem_of_getElem? (i := 3) rfl)) (fun _ h9 => h9) rfl dX2_read_14 ?_
  refine kx_icmp_ge (tgt := 68) hx hb (by omega) (by omega) dX2_read_17 (by decide) (fun c_17_4 => ?_) (fun c_17_5 => ?_)
  · refine lv_aload_n hx hb dX2_read_68 rfl (lv_at hl 0 rfl) ?_
    refine va_get (D := D) (ci := 2) (v := .int (nI tl)) (C := RX2) (T := TX2) (N := 5) hx hb hts iX2_read_2 hown hK hP 0 rfl rfl 1 (by decide) (hts (.fieldLink RX2 19 "HallSights$RowsText" "length" "I") (List.mem_of_getElem? (i := 3) rfl)) (fun _ h9 => h9) rfl dX2_read_69 ?_
    have e_6 : (tl : Nat) = (eC ts tn tl) := by (have q9 : tl = ik := (by omega); rw [q9]; exact hinv12.symm)
    have ec_tn_7 : (((runC ts tn ik).2.2) : ZZ) = ((finC ts tn tl).2.2) := by (have q9 : tl = ik := (by omega); rw [q9, finC_a hinv12])
    have ec_tt_8 : ((nI ((runC ts tn ik).1)) : Int32) = (nI ((finC ts tn tl).1)) := by (have q9 : tl = ik := (by omega); rw [q9, finC_a hinv12])
    have ec_tb_9 : ((bI ((runC ts tn ik).2.1)) : Int32) = (bI ((finC ts tn tl).2.1)) := by (have q9 : tl = ik := (by omega); rw [q9, finC_a hinv12])
    have ew_10 : (TW t cC cI ts (nI tl) ((runC ts tn ik).2.2) (nI ((runC ts tn ik).1)) (bI ((runC ts tn ik).2.1)) : va_W) = (TW t cC cI ts (nI tl) ((finC ts tn tl).2.2) (nI ((finC ts tn tl).1)) (bI ((finC ts tn tl).2.1))) := tw_c rfl rfl ec_tn_7 ec_tt_8 ec_tb_9
    rw [ew_10] at hP hD
    subst hw0
    exact kq_iret hx hb hrt hlocks (congrArg nI e_6) hP hD hS dX2_read_72
  · refine lv_aload_n hx hb dX2_read_20 rfl (lv_at hl 0 rfl) ?_
    refine va_get (D := D) (ci := 2) (v := .ref (t 1)) (C := RX2) (T := TX2) (N := 5) hx hb hts iX2_read_2 hown hK hP 0 rfl rfl 0 (by decide) (hts (.fieldLink RX2 9 "HallSights$RowsText" "signs" "[C") (List.mem_of_getElem? (i := 4) rfl)) (fun _ h9 => h9) rfl dX2_read_21 ?_
    refine lv_iload_n hx hb dX2_read_24 rfl (lv_at hl 1 rfl) ?_
    refine kx_cald hx hb hK hP 1 1 rfl rfl (by omega) (by decide) dX2_read_25 ?_
    refine lv_istore_n (lv' := [(2, .int (ts ik)), (0, .ref (t 0)), (1, .int (nI ik))]) hx hb dX2_read_26 rfl hl (by decide) rfl (fun ls hl => ?_)
    refine lv_iload_n hx hb dX2_read_27 rfl (lv_at hl 0 rfl) ?_
    refine lv_bipush (v := nI 48) hx hb dX2_read_28 (by decide) ?_
    refine lv_icmp_lt (tgt := 50) hx hb dX2_read_30 (by decide) (fun c_30_11 => ?_) (fun c_30_12 => ?_)
    · have c_30_11 : ((ts ik) : Int32) < (nI 48) := c_30_11
      refine lv_aload_n hx hb dX2_read_50 rfl (lv_at hl 1 rfl) ?_
      refine lv_iload_n hx hb dX2_read_51 rfl (lv_at hl 0 rfl) ?_
      refine kz_V (As := [.int (ts ik)]) (rest := []) (C := RX2) (own := RX2) ⟨hx, hb, hml, hown, hts⟩ (c_X2_readEnd l D cI cC cH cL y t ts ((runC ts tn ik).2.2) tl ((runC ts tn ik).1) ((runC ts tn ik).2.1) (ts ik) (by omega)) (cwV 1 hts gX2_read_X2_readEnd rfl rfl rfl k_X2_readEnd ⟨Nat.le_of_ble_eq_true rfl, Nat.le_of_ble_eq_true rfl⟩) hP hD hK hS hZ [0, 1, 2] [] rfl rfl (wr := []) rfl (by decide) (by decide) (by decide) (va_recv (q := (RX2, TX2, 5)) hK hP (ci := 2) (q0 := 0) rfl rfl) rfl hl.1 rfl (Nat.le_of_ble_eq_true rfl) dX2_read_52 ⟨Nat.le_of_ble_eq_true rfl, Nat.le_of_ble_eq_true rfl⟩ (fun H locs hP hD hS => ?_)
      have hP : va_P D vwCl (TW t cC cI ts (nI tl) ((runC ts tn ik).2.2) (nI (if enOk ((runC ts tn ik).2.1) ((runC ts tn ik).1) (ts ik) = true then ((runC ts tn ik).1) + 1 else ((runC ts tn ik).1))) (bI (if enOk ((runC ts tn ik).2.1) ((runC ts tn ik).1) (ts ik) = true then false else ((runC ts tn ik).2.1)))) H := hP
      have hD : va_D (kA w0) (TW t cC cI ts (nI tl) ((runC ts tn ik).2.2) (nI (if enOk ((runC ts tn ik).2.1) ((runC ts tn ik).1) (ts ik) = true then ((runC ts tn ik).1) + 1 else ((runC ts tn ik).1))) (bI (if enOk ((runC ts tn ik).2.1) ((runC ts tn ik).1) (ts ik) = true then false else ((runC ts tn ik).2.1)))) := hD
      refine lv_istore_n (lv' := [(3, .int (bI (enOk ((runC ts tn ik).2.1) ((runC ts tn ik).1) (ts ik)))), (2, .int (ts ik)), (0, .ref (t 0)), (1, .int (nI ik))]) hx hb dX2_read_55 rfl hl (by decide) rfl (fun ls hl => ?_)
      refine lv_iload_n hx hb dX2_read_56 rfl (lv_at hl 0 rfl) ?_
      refine kx_if_neb (tgt := 62) hx hb dX2_read_57 (by decide) (fun c_57_13 => ?_) (fun c_57_14 => ?_)
      · have hdg : isDg (ts ik) = false := by unfold isDg; simp [c_30_11]
        have hok : okC (runC ts tn ik) (ts ik) = true := (okC_e hdg).trans c_57_13
        have hst := stepC_e (p := runC ts tn ik) hdg
        refine lv_iinc (v := nI (ik + 1)) (lv' := [(1, .int (nI (ik + 1))), (3, .int (bI (enOk ((runC ts tn ik).2.1) ((runC ts tn ik).1) (ts ik)))), (2, .int (ts ik)), (0, .ref (t 0))]) hx hb dX2_read_62 hl (k := 3) rfl (kx_inc 1) (by decide) rfl (fun ls hl => ?_)
        refine lv_goto (tgt := 12) hx hb dX2_read_65 (by decide) ?_
        have e12_15 : (ik + 1 : Nat) = ((ik + 1)) := by first | rfl | omega | (simp [Int32.not_lt, Int32.not_le, c_17_5, Nat.not_le.mpr c_17_5, c_30_11, Int32.not_le.mpr c_30_11, c_57_13]; done) | (simp [Int32.not_lt, Int32.not_le, c_17_5, Nat.not_le.mpr c_17_5, c_30_11, Int32.not_le.mpr c_30_11, c_57_13]; omega) | (revert c_17_5 c_30_11 c_57_13; simp +contextual [Int32.not_lt, Int32.not_le]; done) | (revert c_17_5 c_30_11 c_57_13; simp +contextual [Int32.not_lt, Int32.not_le]; omega)
        have hl12_16 : lv_has ls 4 [(0, .ref (t 0)), (1, .int (nI (ik + 1)))] := lv_eqv (l1 := [(0, .ref (t 0)), (1, .int (nI (ik + 1)))]) (lv_sub hl [3, 0] rfl) (lv_ce rfl (lv_ce (congrArg (fun x => Value.int (nI x)) e12_15) rfl))
        have ec_tn_17 : (((runC ts tn ik).2.2) : ZZ) = ((runC ts tn (ik + 1)).2.2) := by (rw [runC_s, hst])
        have ec_tt_18 : ((nI (if enOk ((runC ts tn ik).2.1) ((runC ts tn ik).1) (ts ik) = true then ((runC ts tn ik).1) + 1 else ((runC ts tn ik).1))) : Int32) = (nI ((runC ts tn (ik + 1)).1)) := by (rw [runC_s, hst])
        have ec_tb_19 : ((bI (if enOk ((runC ts tn ik).2.1) ((runC ts tn ik).1) (ts ik) = true then false else ((runC ts tn ik).2.1))) : Int32) = (bI ((runC ts tn (ik + 1)).2.1)) := by (rw [runC_s, hst])
        have ew_20 : (TW t cC cI ts (nI tl) ((runC ts tn ik).2.2) (nI (if enOk ((runC ts tn ik).2.1) ((runC ts tn ik).1) (ts ik) = true then ((runC ts tn ik).1) + 1 else ((runC ts tn ik).1))) (bI (if enOk ((runC ts tn ik).2.1) ((runC ts tn ik).1) (ts ik) = true then false else ((runC ts tn ik).2.1))) : va_W) = (TW t cC cI ts (nI tl) ((runC ts tn (ik + 1)).2.2) (nI ((runC ts tn (ik + 1)).1)) (bI ((runC ts tn (ik + 1)).2.1))) := tw_c rfl rfl ec_tn_17 ec_tt_18 ec_tb_19
        rw [ew_20] at hP hD
        exact ih12 _ _ _ (by omega) ⟨⟨hP, hD, hS⟩, ⟨hl12_16, by rw [eC_s, if_pos ⟨hinv12, hok⟩]⟩⟩
      · have hdg : isDg (ts ik) = false := by unfold isDg; simp [c_30_11]
        have hok : okC (runC ts tn ik) (ts ik) = false := (okC_e hdg).trans c_57_14
        have hst := stepC_e (p := runC ts tn ik) hdg
        refine lv_iload_n hx hb dX2_read_60 rfl (lv_at hl 3 rfl) ?_
        have e_21 : (ik : Nat) = (eC ts tn tl) := by exact (eC_stop hinv12 (by omega) hok).symm
        have ec_tn_22 : (((runC ts tn ik).2.2) : ZZ) = ((finC ts tn tl).2.2) := by (rw [finC_b hinv12 (by omega) hok, hst])
        have ec_tt_23 : ((nI (if enOk ((runC ts tn ik).2.1) ((runC ts tn ik).1) (ts ik) = true then ((runC ts tn ik).1) + 1 else ((runC ts tn ik).1))) : Int32) = (nI ((finC ts tn tl).1)) := by (rw [finC_b hinv12 (by omega) hok, hst])
        have ec_tb_24 : ((bI (if enOk ((runC ts tn ik).2.1) ((runC ts tn ik).1) (ts ik) = true then false else ((runC ts tn ik).2.1))) : Int32) = (bI ((finC ts tn tl).2.1)) := by (rw [finC_b hinv12 (by omega) hok, hst])
        have ew_25 : (TW t cC cI ts (nI tl) ((runC ts tn ik).2.2) (nI (if enOk ((runC ts tn ik).2.1) ((runC ts tn ik).1) (ts ik) = true then ((runC ts tn ik).1) + 1 else ((runC ts tn ik).1))) (bI (if enOk ((runC ts tn ik).2.1) ((runC ts tn ik).1) (ts ik) = true then false else ((runC ts tn ik).2.1))) : va_W) = (TW t cC cI ts (nI tl) ((finC ts tn tl).2.2) (nI ((finC ts tn tl).1)) (bI ((finC ts tn tl).2.1))) := tw_c rfl rfl ec_tn_22 ec_tt_23 ec_tb_24
        rw [ew_25] at hP hD
        subst hw0
        exact kq_iret hx hb hrt hlocks (congrArg nI e_21) hP hD hS dX2_read_61
    · have c_30_12 : ¬ ((ts ik) : Int32) < (nI 48) := c_30_12
      refine lv_iload_n hx hb dX2_read_33 rfl (lv_at hl 0 rfl) ?_
      refine lv_bipush (v := nI 57) hx hb dX2_read_34 (by decide) ?_
      refine lv_icmp_gt (tgt := 50) hx hb dX2_read_36 (by decide) (fun c_36_26 => ?_) (fun c_36_27 => ?_)
      · have c_36_26 : ((nI 57) : Int32) < (ts ik) := c_36_26
        refine lv_aload_n hx hb dX2_read_50 rfl (lv_at hl 1 rfl) ?_
        refine lv_iload_n hx hb dX2_read_51 rfl (lv_at hl 0 rfl) ?_
        refine kz_V (As := [.int (ts ik)]) (rest := []) (C := RX2) (own := RX2) ⟨hx, hb, hml, hown, hts⟩ (c_X2_readEnd l D cI cC cH cL y t ts ((runC ts tn ik).2.2) tl ((runC ts tn ik).1) ((runC ts tn ik).2.1) (ts ik) (by omega)) (cwV 1 hts gX2_read_X2_readEnd rfl rfl rfl k_X2_readEnd ⟨Nat.le_of_ble_eq_true rfl, Nat.le_of_ble_eq_true rfl⟩) hP hD hK hS hZ [0, 1, 2] [] rfl rfl (wr := []) rfl (by decide) (by decide) (by decide) (va_recv (q := (RX2, TX2, 5)) hK hP (ci := 2) (q0 := 0) rfl rfl) rfl hl.1 rfl (Nat.le_of_ble_eq_true rfl) dX2_read_52 ⟨Nat.le_of_ble_eq_true rfl, Nat.le_of_ble_eq_true rfl⟩ (fun H locs hP hD hS => ?_)
        have hP : va_P D vwCl (TW t cC cI ts (nI tl) ((runC ts tn ik).2.2) (nI (if enOk ((runC ts tn ik).2.1) ((runC ts tn ik).1) (ts ik) = true then ((runC ts tn ik).1) + 1 else ((runC ts tn ik).1))) (bI (if enOk ((runC ts tn ik).2.1) ((runC ts tn ik).1) (ts ik) = true then false else ((runC ts tn ik).2.1)))) H := hP
        have hD : va_D (kA w0) (TW t cC cI ts (nI tl) ((runC ts tn ik).2.2) (nI (if enOk ((runC ts tn ik).2.1) ((runC ts tn ik).1) (ts ik) = true then ((runC ts tn ik).1) + 1 else ((runC ts tn ik).1))) (bI (if enOk ((runC ts tn ik).2.1) ((runC ts tn ik).1) (ts ik) = true then false else ((runC ts tn ik).2.1)))) := hD
        refine lv_istore_n (lv' := [(3, .int (bI (enOk ((runC ts tn ik).2.1) ((runC ts tn ik).1) (ts ik)))), (2, .int (ts ik)), (0, .ref (t 0)), (1, .int (nI ik))]) hx hb dX2_read_55 rfl hl (by decide) rfl (fun ls hl => ?_)
        refine lv_iload_n hx hb dX2_read_56 rfl (lv_at hl 0 rfl) ?_
        refine kx_if_neb (tgt := 62) hx hb dX2_read_57 (by decide) (fun c_57_28 => ?_) (fun c_57_29 => ?_)
        · have hdg : isDg (ts ik) = false := by unfold isDg; simp [c_30_12, c_36_26]
          have hok : okC (runC ts tn ik) (ts ik) = true := (okC_e hdg).trans c_57_28
          have hst := stepC_e (p := runC ts tn ik) hdg
          refine lv_iinc (v := nI (ik + 1)) (lv' := [(1, .int (nI (ik + 1))), (3, .int (bI (enOk ((runC ts tn ik).2.1) ((runC ts tn ik).1) (ts ik)))), (2, .int (ts ik)), (0, .ref (t 0))]) hx hb dX2_read_62 hl (k := 3) rfl (kx_inc 1) (by decide) rfl (fun ls hl => ?_)
          refine lv_goto (tgt := 12) hx hb dX2_read_65 (by decide) ?_
          have e12_30 : (ik + 1 : Nat) = ((ik + 1)) := by first | rfl | omega | (simp [Int32.not_lt, Int32.not_le, c_17_5, Nat.not_le.mpr c_17_5, c_30_12, Int32.not_lt.mp c_30_12, c_36_26, Int32.not_le.mpr c_36_26, c_57_28]; done) | (simp [Int32.not_lt, Int32.not_le, c_17_5, Nat.not_le.mpr c_17_5, c_30_12, Int32.not_lt.mp c_30_12, c_36_26, Int32.not_le.mpr c_36_26, c_57_28]; omega) | (revert c_17_5 c_30_12 c_36_26 c_57_28; simp +contextual [Int32.not_lt, Int32.not_le]; done) | (revert c_17_5 c_30_12 c_36_26 c_57_28; simp +contextual [Int32.not_lt, Int32.not_le]; omega)
          have hl12_31 : lv_has ls 4 [(0, .ref (t 0)), (1, .int (nI (ik + 1)))] := lv_eqv (l1 := [(0, .ref (t 0)), (1, .int (nI (ik + 1)))]) (lv_sub hl [3, 0] rfl) (lv_ce rfl (lv_ce (congrArg (fun x => Value.int (nI x)) e12_30) rfl))
          have ec_tn_32 : (((runC ts tn ik).2.2) : ZZ) = ((runC ts tn (ik + 1)).2.2) := by (rw [runC_s, hst])
          have ec_tt_33 : ((nI (if enOk ((runC ts tn ik).2.1) ((runC ts tn ik).1) (ts ik) = true then ((runC ts tn ik).1) + 1 else ((runC ts tn ik).1))) : Int32) = (nI ((runC ts tn (ik + 1)).1)) := by (rw [runC_s, hst])
          have ec_tb_34 : ((bI (if enOk ((runC ts tn ik).2.1) ((runC ts tn ik).1) (ts ik) = true then false else ((runC ts tn ik).2.1))) : Int32) = (bI ((runC ts tn (ik + 1)).2.1)) := by (rw [runC_s, hst])
          have ew_35 : (TW t cC cI ts (nI tl) ((runC ts tn ik).2.2) (nI (if enOk ((runC ts tn ik).2.1) ((runC ts tn ik).1) (ts ik) = true then ((runC ts tn ik).1) + 1 else ((runC ts tn ik).1))) (bI (if enOk ((runC ts tn ik).2.1) ((runC ts tn ik).1) (ts ik) = true then false else ((runC ts tn ik).2.1))) : va_W) = (TW t cC cI ts (nI tl) ((runC ts tn (ik + 1)).2.2) (nI ((runC ts tn (ik + 1)).1)) (bI ((runC ts tn (ik + 1)).2.1))) := tw_c rfl rfl ec_tn_32 ec_tt_33 ec_tb_34
          rw [ew_35] at hP hD
          exact ih12 _ _ _ (by omega) ⟨⟨hP, hD, hS⟩, ⟨hl12_31, by rw [eC_s, if_pos ⟨hinv12, hok⟩]⟩⟩
        · have hdg : isDg (ts ik) = false := by unfold isDg; simp [c_30_12, c_36_26]
          have hok : okC (runC ts tn ik) (ts ik) = false := (okC_e hdg).trans c_57_29
          have hst := stepC_e (p := runC ts tn ik) hdg
          refine lv_iload_n hx hb dX2_read_60 rfl (lv_at hl 3 rfl) ?_
          have e_36 : (ik : Nat) = (eC ts tn tl) := by exact (eC_stop hinv12 (by omega) hok).symm
          have ec_tn_37 : (((runC ts tn ik).2.2) : ZZ) = ((finC ts tn tl).2.2) := by (rw [finC_b hinv12 (by omega) hok, hst])
          have ec_tt_38 : ((nI (if enOk ((runC ts tn ik).2.1) ((runC ts tn ik).1) (ts ik) = true then ((runC ts tn ik).1) + 1 else ((runC ts tn ik).1))) : Int32) = (nI ((finC ts tn tl).1)) := by (rw [finC_b hinv12 (by omega) hok, hst])
          have ec_tb_39 : ((bI (if enOk ((runC ts tn ik).2.1) ((runC ts tn ik).1) (ts ik) = true then false else ((runC ts tn ik).2.1))) : Int32) = (bI ((finC ts tn tl).2.1)) := by (rw [finC_b hinv12 (by omega) hok, hst])
          have ew_40 : (TW t cC cI ts (nI tl) ((runC ts tn ik).2.2) (nI (if enOk ((runC ts tn ik).2.1) ((runC ts tn ik).1) (ts ik) = true then ((runC ts tn ik).1) + 1 else ((runC ts tn ik).1))) (bI (if enOk ((runC ts tn ik).2.1) ((runC ts tn ik).1) (ts ik) = true then false else ((runC ts tn ik).2.1))) : va_W) = (TW t cC cI ts (nI tl) ((finC ts tn tl).2.2) (nI ((finC ts tn tl).1)) (bI ((finC ts tn tl).2.1))) := tw_c rfl rfl ec_tn_37 ec_tt_38 ec_tb_39
          rw [ew_40] at hP hD
          subst hw0
          exact kq_iret hx hb hrt hlocks (congrArg nI e_36) hP hD hS dX2_read_61
      · have c_36_27 : ¬ ((nI 57) : Int32) < (ts ik) := c_36_27
        refine lv_aload_n hx hb dX2_read_39 rfl (lv_at hl 1 rfl) ?_
        refine lv_iload_n hx hb dX2_read_40 rfl (lv_at hl 0 rfl) ?_
        refine lv_bipush (v := nI 48) hx hb dX2_read_41 (by decide) ?_
        refine lv_isub hx hb dX2_read_43 ?_
        refine kz_V (As := [.int ((ts ik) - (nI 48))]) (rest := []) (C := RX2) (own := RX2) ⟨hx, hb, hml, hown, hts⟩ (c_X2_readDigit l D cI cC cH cL y t ts ((runC ts tn ik).2.2) tl ((runC ts tn ik).1) ((runC ts tn ik).2.1) ((ts ik) - (nI 48)) (by omega)) (cwV 1 hts gX2_read_X2_readDigit rfl rfl rfl k_X2_readDigit ⟨Nat.le_of_ble_eq_true rfl, Nat.le_of_ble_eq_true rfl⟩) hP hD hK hS hZ [0, 1, 2] [] rfl rfl (wr := []) rfl (by decide) (by decide) (by decide) (va_recv (q := (RX2, TX2, 5)) hK hP (ci := 2) (q0 := 0) rfl rfl) rfl hl.1 rfl (Nat.le_of_ble_eq_true rfl) dX2_read_44 ⟨Nat.le_of_ble_eq_true rfl, Nat.le_of_ble_eq_true rfl⟩ (fun H locs hP hD hS => ?_)
        have hP : va_P D vwCl (TW t cC cI ts (nI tl) (dgF1 ((runC ts tn ik).2.1) ((runC ts tn ik).2.2) ((runC ts tn ik).1) ((ts ik) - (nI 48))) (nI ((runC ts tn ik).1)) (bI true)) H := hP
        have hD : va_D (kA w0) (TW t cC cI ts (nI tl) (dgF1 ((runC ts tn ik).2.1) ((runC ts tn ik).2.2) ((runC ts tn ik).1) ((ts ik) - (nI 48))) (nI ((runC ts tn ik).1)) (bI true)) := hD
        refine lv_goto (tgt := 55) hx hb dX2_read_47 (by decide) ?_
        refine lv_istore_n (lv' := [(3, .int (bI (dgOk ((runC ts tn ik).2.1) ((runC ts tn ik).2.2) ((runC ts tn ik).1) ((ts ik) - (nI 48))))), (2, .int (ts ik)), (0, .ref (t 0)), (1, .int (nI ik))]) hx hb dX2_read_55 rfl hl (by decide) rfl (fun ls hl => ?_)
        refine lv_iload_n hx hb dX2_read_56 rfl (lv_at hl 0 rfl) ?_
        refine kx_if_neb (tgt := 62) hx hb dX2_read_57 (by decide) (fun c_57_41 => ?_) (fun c_57_42 => ?_)
        · have hdg : isDg (ts ik) = true := by unfold isDg; simp [c_30_12, c_36_27]
          have hok : okC (runC ts tn ik) (ts ik) = true := (okC_d hdg).trans c_57_41
          have hst := stepC_d (p := runC ts tn ik) hdg
          refine lv_iinc (v := nI (ik + 1)) (lv' := [(1, .int (nI (ik + 1))), (3, .int (bI (dgOk ((runC ts tn ik).2.1) ((runC ts tn ik).2.2) ((runC ts tn ik).1) ((ts ik) - (nI 48))))), (2, .int (ts ik)), (0, .ref (t 0))]) hx hb dX2_read_62 hl (k := 3) rfl (kx_inc 1) (by decide) rfl (fun ls hl => ?_)
          refine lv_goto (tgt := 12) hx hb dX2_read_65 (by decide) ?_
          have e12_43 : (ik + 1 : Nat) = ((ik + 1)) := by first | rfl | omega | (simp [Int32.not_lt, Int32.not_le, c_17_5, Nat.not_le.mpr c_17_5, c_30_12, Int32.not_lt.mp c_30_12, c_36_27, Int32.not_lt.mp c_36_27, c_57_41]; done) | (simp [Int32.not_lt, Int32.not_le, c_17_5, Nat.not_le.mpr c_17_5, c_30_12, Int32.not_lt.mp c_30_12, c_36_27, Int32.not_lt.mp c_36_27, c_57_41]; omega) | (revert c_17_5 c_30_12 c_36_27 c_57_41; simp +contextual [Int32.not_lt, Int32.not_le]; done) | (revert c_17_5 c_30_12 c_36_27 c_57_41; simp +contextual [Int32.not_lt, Int32.not_le]; omega)
          have hl12_44 : lv_has ls 4 [(0, .ref (t 0)), (1, .int (nI (ik + 1)))] := lv_eqv (l1 := [(0, .ref (t 0)), (1, .int (nI (ik + 1)))]) (lv_sub hl [3, 0] rfl) (lv_ce rfl (lv_ce (congrArg (fun x => Value.int (nI x)) e12_43) rfl))
          have ec_tn_45 : ((dgF1 ((runC ts tn ik).2.1) ((runC ts tn ik).2.2) ((runC ts tn ik).1) ((ts ik) - (nI 48))) : ZZ) = ((runC ts tn (ik + 1)).2.2) := by (rw [runC_s, hst])
          have ec_tt_46 : ((nI ((runC ts tn ik).1)) : Int32) = (nI ((runC ts tn (ik + 1)).1)) := by (rw [runC_s, hst])
          have ec_tb_47 : ((bI true) : Int32) = (bI ((runC ts tn (ik + 1)).2.1)) := by (rw [runC_s, hst])
          have ew_48 : (TW t cC cI ts (nI tl) (dgF1 ((runC ts tn ik).2.1) ((runC ts tn ik).2.2) ((runC ts tn ik).1) ((ts ik) - (nI 48))) (nI ((runC ts tn ik).1)) (bI true) : va_W) = (TW t cC cI ts (nI tl) ((runC ts tn (ik + 1)).2.2) (nI ((runC ts tn (ik + 1)).1)) (bI ((runC ts tn (ik + 1)).2.1))) := tw_c rfl rfl ec_tn_45 ec_tt_46 ec_tb_47
          rw [ew_48] at hP hD
          exact ih12 _ _ _ (by omega) ⟨⟨hP, hD, hS⟩, ⟨hl12_44, by rw [eC_s, if_pos ⟨hinv12, hok⟩]⟩⟩
        · have hdg : isDg (ts ik) = true := by unfold isDg; simp [c_30_12, c_36_27]
          have hok : okC (runC ts tn ik) (ts ik) = false := (okC_d hdg).trans c_57_42
          have hst := stepC_d (p := runC ts tn ik) hdg
          refine lv_iload_n hx hb dX2_read_60 rfl (lv_at hl 3 rfl) ?_
          have e_49 : (ik : Nat) = (eC ts tn tl) := by exact (eC_stop hinv12 (by omega) hok).symm
          have ec_tn_50 : ((dgF1 ((runC ts tn ik).2.1) ((runC ts tn ik).2.2) ((runC ts tn ik).1) ((ts ik) - (nI 48))) : ZZ) = ((finC ts tn tl).2.2) := by (rw [finC_b hinv12 (by omega) hok, hst])
          have ec_tt_51 : ((nI ((runC ts tn ik).1)) : Int32) = (nI ((finC ts tn tl).1)) := by (rw [finC_b hinv12 (by omega) hok, hst])
          have ec_tb_52 : ((bI true) : Int32) = (bI ((finC ts tn tl).2.1)) := by (rw [finC_b hinv12 (by omega) hok, hst])
          have ew_53 : (TW t cC cI ts (nI tl) (dgF1 ((runC ts tn ik).2.1) ((runC ts tn ik).2.2) ((runC ts tn ik).1) ((ts ik) - (nI 48))) (nI ((runC ts tn ik).1)) (bI true) : va_W) = (TW t cC cI ts (nI tl) ((finC ts tn tl).2.2) (nI ((finC ts tn tl).1)) (bI ((finC ts tn tl).2.1))) := tw_c rfl rfl ec_tn_50 ec_tt_51 ec_tb_52
          rw [ew_53] at hP hD
          subst hw0
          exact kq_iret hx hb hrt hlocks (congrArg nI e_49) hP hD hS dX2_read_61
set_option maxRecDepth 20000 in
theorem iX2_isComplete_2 : ∀ w ∈ wsX20, w ∈ wsX2_isComplete := by decide +kernel
set_option maxHeartbeats 4000000 in
set_option maxRecDepth 100000 in
theorem c_X2_isComplete (l : Launch) (D : va_G) (cI cC cH cL : ClassId) (y : Nat → Nat) (t : Nat → Nat) (ts tn : ZZ) (tl tt : Nat) (tb : Bool)  (hl : tl ≤ 60) : Met l yX2_isComplete wsX2_isComplete ({ frames := 2, cells := 0, slots := 0, locals := 46 }) (kwz y [.ref (t 0)] D (TW t cC cI ts (nI tl) tn (nI tt) (bI tb)) (kT cI cC cH cL)) (kq D (TW t cC cI ts (nI tl) tn (nI tt) (bI tb)) (TW t cC cI ts (nI tl) ((finC ts tn tl).2.2) (nI ((finC ts tn tl).1)) (bI ((finC ts tn tl).2.1))) (.returned (some (.int (bI (cmpB ts tn tl)))))) 0 0 (kA (TW t cC cI ts (nI tl) tn (nI tt) (bI tb))) := by
  refine Met.ofW (cc := cX2_isComplete) (maxL := 1) (ret := (some .boolean)) (by decide) rfl ?_
  intro p e s m args below meth c s₁ B hml hv
  obtain ⟨⟨rfl, hP, hK, hD0⟩, hZ⟩ := hv
  have hx := B.exec
  have hb := B.bytes
  have hrt := B.returns
  have hts := atoms_spec (ws := wsX2_isComplete) B.pre
  have hown : s.vm.findClass RX2 = some m.cls := findClass_of_methodNamed B.named
  have hlocks := B.notSynchronized
  have hl := lv_entry ([.ref (t 0)]) (n := 1) (Nat.le_of_ble_eq_true rfl)
  rw [lg_entry_eq]
  generalize (lg_sl ([.ref (t 0)]) ++ List.replicate (1 - (lg_sl ([.ref (t 0)])).length) Slot.unset).toArray = ls at hl ⊢
  have hl : lv_has ls 1 [(0, .ref (t 0))] := hl
  have hD := kA_self hD0
  obtain ⟨w0, hw0⟩ : ∃ w : va_W, w = TW t cC cI ts (nI tl) tn (nI tt) (bI tb) := ⟨_, rfl⟩
  have hD : va_D (kA w0) (TW t cC cI ts (nI tl) tn (nI tt) (bI tb)) := by rw [hw0]; exact hD
  have hS : va_S (kA w0) s.heap s.heap [] := va_S.rf
  have hZ : zZ y (kA w0) s s.heap := by rw [hw0]; exact hZ
  rw [show kA (TW t cC cI ts (nI tl) tn (nI tt) (bI tb)) = kA w0 from by rw [hw0], show kq D (TW t cC cI ts (nI tl) tn (nI tt) (bI tb)) = kq D w0 from by rw [hw0]]
  have hP : va_P D vwCl (TW t cC cI ts (nI tl) tn (nI tt) (bI tb)) s.heap := hP
  have heC := eC_le ts tn tl
  have hf1 := finC_1 ts tn tl
  refine lv_aload_n hx hb dX2_isComplete_0 rfl (lv_at hl 0 rfl) ?_
  refine kz_V (As := []) (rest := []) (C := RX2) (own := RX2) ⟨hx, hb, hml, hown, hts⟩ (c_X2_read l D cI cC cH cL y t ts tn tl tt tb  (by first | assumption | omega)) (cwV 0 hts gX2_isComplete_X2_read rfl rfl rfl k_X2_read ⟨Nat.le_of_ble_eq_true rfl, Nat.le_of_ble_eq_true rfl⟩) hP hD hK hS hZ [0, 1, 2] [] rfl rfl (wr := []) rfl (by decide) (by decide) (by decide) (va_recv (q := (RX2, TX2, 5)) hK hP (ci := 2) (q0 := 0) rfl rfl) rfl hl.1 rfl (Nat.le_of_ble_eq_true rfl) dX2_isComplete_1 ⟨Nat.le_of_ble_eq_true rfl, Nat.le_of_ble_eq_true rfl⟩ (fun H locs hP hD hS => ?_)
  have hP : va_P D vwCl (TW t cC cI ts (nI tl) ((finC ts tn tl).2.2) (nI ((finC ts tn tl).1)) (bI ((finC ts tn tl).2.1))) H := hP
  have hD : va_D (kA w0) (TW t cC cI ts (nI tl) ((finC ts tn tl).2.2) (nI ((finC ts tn tl).1)) (bI ((finC ts tn tl).2.1))) := hD
  refine lv_aload_n hx hb dX2_isComplete_4 rfl (lv_at hl 0 rfl) ?_
  refine va_get (D := D) (ci := 2) (v := .int (nI tl)) (C := RX2) (T := TX2) (N := 5) hx hb hts iX2_isComplete_2 hown hK hP 0 rfl rfl 1 (by decide) (hts (.fieldLink RX2 19 "HallSights$RowsText" "length" "I") (List.mem_of_getElem? (i := 1) rfl)) (fun _ h9 => h9) rfl dX2_isComplete_5 ?_
  refine kx_icmp_ne (tgt := 32) hx hb (by omega) (by omega) dX2_isComplete_8 (by decide) (fun c_8_0 => ?_) (fun c_8_1 => ?_)
  · refine lv_iconst (v := nI 0) hx hb dX2_isComplete_32 (by decide) ?_
    have e_2 : (false : Bool) = (cmpB ts tn tl) := by first | rfl | omega | (simp [cmpB, Int32.not_lt, Int32.not_le, c_8_0]; done) | (simp [cmpB, Int32.not_lt, Int32.not_le, c_8_0]; omega) | (revert c_8_0; simp +contextual [cmpB, Int32.not_lt, Int32.not_le]; done) | (revert c_8_0; simp +contextual [cmpB, Int32.not_lt, Int32.not_le]; omega)
    subst hw0
    exact kq_zret hx hb hrt hlocks (congrArg bI e_2) hP hD hS dX2_isComplete_33
  · refine lv_aload_n hx hb dX2_isComplete_11 rfl (lv_at hl 0 rfl) ?_
    refine va_get (D := D) (ci := 2) (v := .int (bI ((finC ts tn tl).2.1))) (C := RX2) (T := TX2) (N := 5) hx hb hts iX2_isComplete_2 hown hK hP 0 rfl rfl 4 (by decide) (hts (.fieldLink RX2 26 "HallSights$RowsText" "begun" "Z") (List.mem_of_getElem? (i := 2) rfl)) (fun _ h9 => h9) rfl dX2_isComplete_12 ?_
    refine kx_if_eqb (tgt := 32) hx hb dX2_isComplete_15 (by decide) (fun c_15_3 => ?_) (fun c_15_4 => ?_)
    · refine lv_iconst (v := nI 0) hx hb dX2_isComplete_32 (by decide) ?_
      have e_5 : (false : Bool) = (cmpB ts tn tl) := by first | rfl | omega | (simp [cmpB, Int32.not_lt, Int32.not_le, c_8_1, c_15_3]; done) | (simp [cmpB, Int32.not_lt, Int32.not_le, c_8_1, c_15_3]; omega) | (revert c_8_1 c_15_3; simp +contextual [cmpB, Int32.not_lt, Int32.not_le]; done) | (revert c_8_1 c_15_3; simp +contextual [cmpB, Int32.not_lt, Int32.not_le]; omega) | (subst c_8_1; simp [cmpB, Int32.not_lt, Int32.not_le, c_15_3]; done)
      subst hw0
      exact kq_zret hx hb hrt hlocks (congrArg bI e_5) hP hD hS dX2_isComplete_33
    · refine lv_aload_n hx hb dX2_isComplete_18 rfl (lv_at hl 0 rfl) ?_
      refine va_get (D := D) (ci := 2) (v := .int (nI ((finC ts tn tl).1))) (C := RX2) (T := TX2) (N := 5) hx hb hts iX2_isComplete_2 hown hK hP 0 rfl rfl 3 (by decide) (hts (.fieldLink RX2 23 "HallSights$RowsText" "last" "I") (List.mem_of_getElem? (i := 3) rfl)) (fun _ h9 => h9) rfl dX2_isComplete_19 ?_
      refine lv_iconst (v := nI 3) hx hb dX2_isComplete_22 (by decide) ?_
      refine kx_irem hx hb (by omega) (by omega) (by omega) dX2_isComplete_23 ?_
      refine lv_iconst (v := nI 2) hx hb dX2_isComplete_24 (by decide) ?_
      refine kx_icmp_ne (tgt := 32) hx hb (by omega) (by omega) dX2_isComplete_25 (by decide) (fun c_25_6 => ?_) (fun c_25_7 => ?_)
      · refine lv_iconst (v := nI 0) hx hb dX2_isComplete_32 (by decide) ?_
        have e_8 : (false : Bool) = (cmpB ts tn tl) := by first | rfl | omega | (simp [cmpB, Int32.not_lt, Int32.not_le, c_8_1, c_15_4, c_25_6]; done) | (simp [cmpB, Int32.not_lt, Int32.not_le, c_8_1, c_15_4, c_25_6]; omega) | (revert c_8_1 c_15_4 c_25_6; simp +contextual [cmpB, Int32.not_lt, Int32.not_le]; done) | (revert c_8_1 c_15_4 c_25_6; simp +contextual [cmpB, Int32.not_lt, Int32.not_le]; omega) | (subst c_8_1; simp [cmpB, Int32.not_lt, Int32.not_le, c_15_4, c_25_6]; done)
        subst hw0
        exact kq_zret hx hb hrt hlocks (congrArg bI e_8) hP hD hS dX2_isComplete_33
      · refine lv_iconst (v := nI 1) hx hb dX2_isComplete_28 (by decide) ?_
        refine lv_goto (tgt := 33) hx hb dX2_isComplete_29 (by decide) ?_
        have e_9 : (true : Bool) = (cmpB ts tn tl) := by first | rfl | omega | (simp [cmpB, Int32.not_lt, Int32.not_le, c_8_1, c_15_4, c_25_7]; done) | (simp [cmpB, Int32.not_lt, Int32.not_le, c_8_1, c_15_4, c_25_7]; omega) | (revert c_8_1 c_15_4 c_25_7; simp +contextual [cmpB, Int32.not_lt, Int32.not_le]; done) | (revert c_8_1 c_15_4 c_25_7; simp +contextual [cmpB, Int32.not_lt, Int32.not_le]; omega) | (subst c_8_1; simp [cmpB, Int32.not_lt, Int32.not_le, c_15_4, c_25_7]; done)
        subst hw0
        exact kq_zret hx hb hrt hlocks (congrArg bI e_9) hP hD hS dX2_isComplete_33
set_option maxRecDepth 20000 in
theorem iX2_rowsRead_2 : ∀ w ∈ wsX20, w ∈ wsX2_rowsRead := by decide +kernel
set_option maxHeartbeats 4000000 in
set_option maxRecDepth 100000 in
theorem c_X2_rowsRead (l : Launch) (D : va_G) (cI cC cH cL : ClassId) (t : Nat → Nat) (ts tn : ZZ) (tl tt : Nat) (tb : Bool)  (ht : tt < 1000) : Met l yX2_rowsRead wsX2_rowsRead ({ frames := 0, cells := 0, slots := 0, locals := 0 }) (kp [.ref (t 0)] D (TW t cC cI ts (nI tl) tn (nI tt) (bI tb)) (kT cI cC cH cL)) (kr (.returned (some (.int (nI (tt / 3 + 1)))))) 0 0 (fun _ => False) := by
  refine Met.ofW (cc := cX2_rowsRead) (maxL := 1) (ret := (some .int)) (by decide) rfl ?_
  intro p e s m args below meth c s₁ B hml hv
  obtain ⟨rfl, hP, hK⟩ := hv
  have hx := B.exec
  have hb := B.bytes
  have hrt := B.returns
  have hts := atoms_spec (ws := wsX2_rowsRead) B.pre
  have hown : s.vm.findClass RX2 = some m.cls := findClass_of_methodNamed B.named
  have hlocks := B.notSynchronized
  have hl := lv_entry ([.ref (t 0)]) (n := 1) (Nat.le_of_ble_eq_true rfl)
  rw [lg_entry_eq]
  generalize (lg_sl ([.ref (t 0)]) ++ List.replicate (1 - (lg_sl ([.ref (t 0)])).length) Slot.unset).toArray = ls at hl ⊢
  have hl : lv_has ls 1 [(0, .ref (t 0))] := hl
  refine lv_aload_n hx hb dX2_rowsRead_0 rfl (lv_at hl 0 rfl) ?_
  refine va_get (D := D) (ci := 2) (v := .int (nI tt)) (C := RX2) (T := TX2) (N := 5) hx hb hts iX2_rowsRead_2 hown hK hP 0 rfl rfl 3 (by decide) (hts (.fieldLink RX2 23 "HallSights$RowsText" "last" "I") (List.mem_of_getElem? (i := 1) rfl)) (fun _ h9 => h9) rfl dX2_rowsRead_1 ?_
  refine lv_iconst (v := nI 3) hx hb dX2_rowsRead_4 (by decide) ?_
  refine kx_idiv hx hb (by omega) (by omega) (by omega) dX2_rowsRead_5 ?_
  refine lv_iconst (v := nI 1) hx hb dX2_rowsRead_6 (by decide) ?_
  refine kx_iadd hx hb dX2_rowsRead_7 ?_
  have e_0 : ((tt / 3) + 1 : Nat) = (tt / 3 + 1) := by first | rfl | omega | (simp [Int32.not_lt, Int32.not_le]; done) | (simp [Int32.not_lt, Int32.not_le]; omega)
  exact kr_iret hx hb hrt hlocks (congrArg nI e_0) rfl dX2_rowsRead_8
set_option maxRecDepth 20000 in
theorem iX2_distanceRead_2 : ∀ w ∈ wsX20, w ∈ wsX2_distanceRead := by decide +kernel
set_option maxHeartbeats 4000000 in
set_option maxRecDepth 100000 in
theorem c_X2_distanceRead (l : Launch) (D : va_G) (cI cC cH cL : ClassId) (t : Nat → Nat) (ts tn : ZZ) (tl tt : Nat) (tb : Bool) (k0 : Nat) (hk : k0 < 20) : Met l yX2_distanceRead wsX2_distanceRead ({ frames := 0, cells := 0, slots := 0, locals := 0 }) (kp [.ref (t 0), .int (nI k0)] D (TW t cC cI ts (nI tl) tn (nI tt) (bI tb)) (kT cI cC cH cL)) (kr (.returned (some (.int (tn (k0 * 3 + 0)))))) 0 0 (fun _ => False) := by
  refine Met.ofW (cc := cX2_distanceRead) (maxL := 2) (ret := (some .int)) (by decide) rfl ?_
  intro p e s m args below meth c s₁ B hml hv
  obtain ⟨rfl, hP, hK⟩ := hv
  have hx := B.exec
  have hb := B.bytes
  have hrt := B.returns
  have hts := atoms_spec (ws := wsX2_distanceRead) B.pre
  have hown : s.vm.findClass RX2 = some m.cls := findClass_of_methodNamed B.named
  have hlocks := B.notSynchronized
  have hl := lv_entry ([.ref (t 0), .int (nI k0)]) (n := 2) (Nat.le_of_ble_eq_true rfl)
  rw [lg_entry_eq]
  generalize (lg_sl ([.ref (t 0), .int (nI k0)]) ++ List.replicate (2 - (lg_sl ([.ref (t 0), .int (nI k0)])).length) Slot.unset).toArray = ls at hl ⊢
  have hl : lv_has ls 2 [(0, .ref (t 0)), (1, .int (nI k0))] := hl
  refine lv_aload_n hx hb dX2_distanceRead_0 rfl (lv_at hl 0 rfl) ?_
  refine va_get (D := D) (ci := 2) (v := .ref (t 2)) (C := RX2) (T := TX2) (N := 5) hx hb hts iX2_distanceRead_2 hown hK hP 0 rfl rfl 2 (by decide) (hts (.fieldLink RX2 15 "HallSights$RowsText" "numbers" "[I") (List.mem_of_getElem? (i := 1) rfl)) (fun _ h9 => h9) rfl dX2_distanceRead_1 ?_
  refine lv_iload_n hx hb dX2_distanceRead_4 rfl (lv_at hl 1 rfl) ?_
  refine lv_iconst (v := nI 3) hx hb dX2_distanceRead_5 (by decide) ?_
  refine kx_imul hx hb dX2_distanceRead_6 ?_
  refine lv_iconst (v := nI 0) hx hb dX2_distanceRead_7 (by decide) ?_
  refine kx_iadd hx hb dX2_distanceRead_8 ?_
  refine kx_iald hx hb hK hP 2 0 rfl rfl (by omega) (by decide) dX2_distanceRead_9 ?_
  have e_0 : (tn ((k0 * 3) + 0) : Int32) = (tn (k0 * 3 + 0)) := by first | rfl | omega | (simp [Int32.not_lt, Int32.not_le]; done) | (simp [Int32.not_lt, Int32.not_le]; omega)
  exact kr_iret hx hb hrt hlocks e_0 rfl dX2_distanceRead_10
set_option maxRecDepth 20000 in
theorem iX2_heightRead_2 : ∀ w ∈ wsX20, w ∈ wsX2_heightRead := by decide +kernel
set_option maxHeartbeats 4000000 in
set_option maxRecDepth 100000 in
theorem c_X2_heightRead (l : Launch) (D : va_G) (cI cC cH cL : ClassId) (t : Nat → Nat) (ts tn : ZZ) (tl tt : Nat) (tb : Bool) (k0 : Nat) (hk : k0 < 20) : Met l yX2_heightRead wsX2_heightRead ({ frames := 0, cells := 0, slots := 0, locals := 0 }) (kp [.ref (t 0), .int (nI k0)] D (TW t cC cI ts (nI tl) tn (nI tt) (bI tb)) (kT cI cC cH cL)) (kr (.returned (some (.int (tn (k0 * 3 + 1)))))) 0 0 (fun _ => False) := by
  refine Met.ofW (cc := cX2_heightRead) (maxL := 2) (ret := (some .int)) (by decide) rfl ?_
  intro p e s m args below meth c s₁ B hml hv
  obtain ⟨rfl, hP, hK⟩ := hv
  have hx := B.exec
  have hb := B.bytes
  have hrt := B.returns
  have hts := atoms_spec (ws := wsX2_heightRead) B.pre
  have hown : s.vm.findClass RX2 = some m.cls := findClass_of_methodNamed B.named
  have hlocks := B.notSynchronized
  have hl := lv_entry ([.ref (t 0), .int (nI k0)]) (n := 2) (Nat.le_of_ble_eq_true rfl)
  rw [lg_entry_eq]
  generalize (lg_sl ([.ref (t 0), .int (nI k0)]) ++ List.replicate (2 - (lg_sl ([.ref (t 0), .int (nI k0)])).length) Slot.unset).toArray = ls at hl ⊢
  have hl : lv_has ls 2 [(0, .ref (t 0)), (1, .int (nI k0))] := hl
  refine lv_aload_n hx hb dX2_heightRead_0 rfl (lv_at hl 0 rfl) ?_
  refine va_get (D := D) (ci := 2) (v := .ref (t 2)) (C := RX2) (T := TX2) (N := 5) hx hb hts iX2_heightRead_2 hown hK hP 0 rfl rfl 2 (by decide) (hts (.fieldLink RX2 15 "HallSights$RowsText" "numbers" "[I") (List.mem_of_getElem? (i := 1) rfl)) (fun _ h9 => h9) rfl dX2_heightRead_1 ?_
  refine lv_iload_n hx hb dX2_heightRead_4 rfl (lv_at hl 1 rfl) ?_
  refine lv_iconst (v := nI 3) hx hb dX2_heightRead_5 (by decide) ?_
  refine kx_imul hx hb dX2_heightRead_6 ?_
  refine lv_iconst (v := nI 1) hx hb dX2_heightRead_7 (by decide) ?_
  refine kx_iadd hx hb dX2_heightRead_8 ?_
  refine kx_iald hx hb hK hP 2 0 rfl rfl (by omega) (by decide) dX2_heightRead_9 ?_
  have e_0 : (tn ((k0 * 3) + 1) : Int32) = (tn (k0 * 3 + 1)) := by first | rfl | omega | (simp [Int32.not_lt, Int32.not_le]; done) | (simp [Int32.not_lt, Int32.not_le]; omega)
  exact kr_iret hx hb hrt hlocks e_0 rfl dX2_heightRead_10
set_option maxRecDepth 20000 in
theorem iX2_seatsRead_2 : ∀ w ∈ wsX20, w ∈ wsX2_seatsRead := by decide +kernel
set_option maxHeartbeats 4000000 in
set_option maxRecDepth 100000 in
theorem c_X2_seatsRead (l : Launch) (D : va_G) (cI cC cH cL : ClassId) (t : Nat → Nat) (ts tn : ZZ) (tl tt : Nat) (tb : Bool) (k0 : Nat) (hk : k0 < 20) : Met l yX2_seatsRead wsX2_seatsRead ({ frames := 0, cells := 0, slots := 0, locals := 0 }) (kp [.ref (t 0), .int (nI k0)] D (TW t cC cI ts (nI tl) tn (nI tt) (bI tb)) (kT cI cC cH cL)) (kr (.returned (some (.int (tn (k0 * 3 + 2)))))) 0 0 (fun _ => False) := by
  refine Met.ofW (cc := cX2_seatsRead) (maxL := 2) (ret := (some .int)) (by decide) rfl ?_
  intro p e s m args below meth c s₁ B hml hv
  obtain ⟨rfl, hP, hK⟩ := hv
  have hx := B.exec
  have hb := B.bytes
  have hrt := B.returns
  have hts := atoms_spec (ws := wsX2_seatsRead) B.pre
  have hown : s.vm.findClass RX2 = some m.cls := findClass_of_methodNamed B.named
  have hlocks := B.notSynchronized
  have hl := lv_entry ([.ref (t 0), .int (nI k0)]) (n := 2) (Nat.le_of_ble_eq_true rfl)
  rw [lg_entry_eq]
  generalize (lg_sl ([.ref (t 0), .int (nI k0)]) ++ List.replicate (2 - (lg_sl ([.ref (t 0), .int (nI k0)])).length) Slot.unset).toArray = ls at hl ⊢
  have hl : lv_has ls 2 [(0, .ref (t 0)), (1, .int (nI k0))] := hl
  refine lv_aload_n hx hb dX2_seatsRead_0 rfl (lv_at hl 0 rfl) ?_
  refine va_get (D := D) (ci := 2) (v := .ref (t 2)) (C := RX2) (T := TX2) (N := 5) hx hb hts iX2_seatsRead_2 hown hK hP 0 rfl rfl 2 (by decide) (hts (.fieldLink RX2 15 "HallSights$RowsText" "numbers" "[I") (List.mem_of_getElem? (i := 1) rfl)) (fun _ h9 => h9) rfl dX2_seatsRead_1 ?_
  refine lv_iload_n hx hb dX2_seatsRead_4 rfl (lv_at hl 1 rfl) ?_
  refine lv_iconst (v := nI 3) hx hb dX2_seatsRead_5 (by decide) ?_
  refine kx_imul hx hb dX2_seatsRead_6 ?_
  refine lv_iconst (v := nI 2) hx hb dX2_seatsRead_7 (by decide) ?_
  refine kx_iadd hx hb dX2_seatsRead_8 ?_
  refine kx_iald hx hb hK hP 2 0 rfl rfl (by omega) (by decide) dX2_seatsRead_9 ?_
  have e_0 : (tn ((k0 * 3) + 2) : Int32) = (tn (k0 * 3 + 2)) := by first | rfl | omega | (simp [Int32.not_lt, Int32.not_le]; done) | (simp [Int32.not_lt, Int32.not_le]; omega)
  exact kr_iret hx hb hrt hlocks e_0 rfl dX2_seatsRead_10
