theorem k_Jxe99ae_isNaN_b9ae7 : yJxe99ae_isNaN_b9ae7.cls = RJxe99ae ∧ yJxe99ae_isNaN_b9ae7.cls ≠ "java/lang/invoke/MethodHandle" ∧ yJxe99ae_isNaN_b9ae7.cls ≠ "java/lang/invoke/VarHandle" ∧ (parseMethodDescriptor yJxe99ae_isNaN_b9ae7.desc).map (fun d => d.parameters.length) = some 1 := by decide +kernel
theorem k_Jxe99ae_isNaN_b9ae7S : yJxe99ae_isNaN_b9ae7.cls ≠ "java/lang/invoke/MethodHandle" ∧ yJxe99ae_isNaN_b9ae7.cls ≠ "java/lang/invoke/VarHandle" ∧ (parseMethodDescriptor yJxe99ae_isNaN_b9ae7.desc).map (fun d => d.parameters.length) = some 1 := k_Jxe99ae_isNaN_b9ae7.2
theorem k_X5_allSeats : yX5_allSeats.cls = RX5 ∧ yX5_allSeats.cls ≠ "java/lang/invoke/MethodHandle" ∧ yX5_allSeats.cls ≠ "java/lang/invoke/VarHandle" ∧ (parseMethodDescriptor yX5_allSeats.desc).map (fun d => d.parameters.length) = some 0 := by decide +kernel
theorem k_X5_allSeatsS : yX5_allSeats.cls ≠ "java/lang/invoke/MethodHandle" ∧ yX5_allSeats.cls ≠ "java/lang/invoke/VarHandle" ∧ (parseMethodDescriptor yX5_allSeats.desc).map (fun d => d.parameters.length) = some 0 := k_X5_allSeats.2
theorem k_X5_allTaken : yX5_allTaken.cls = RX5 ∧ yX5_allTaken.cls ≠ "java/lang/invoke/MethodHandle" ∧ yX5_allTaken.cls ≠ "java/lang/invoke/VarHandle" ∧ (parseMethodDescriptor yX5_allTaken.desc).map (fun d => d.parameters.length) = some 0 := by decide +kernel
theorem k_X5_allTakenS : yX5_allTaken.cls ≠ "java/lang/invoke/MethodHandle" ∧ yX5_allTaken.cls ≠ "java/lang/invoke/VarHandle" ∧ (parseMethodDescriptor yX5_allTaken.desc).map (fun d => d.parameters.length) = some 0 := k_X5_allTaken.2
theorem k_X5_blocked : yX5_blocked.cls = RX5 ∧ yX5_blocked.cls ≠ "java/lang/invoke/MethodHandle" ∧ yX5_blocked.cls ≠ "java/lang/invoke/VarHandle" ∧ (parseMethodDescriptor yX5_blocked.desc).map (fun d => d.parameters.length) = some 3 := by decide +kernel
theorem k_X5_blockedS : yX5_blocked.cls ≠ "java/lang/invoke/MethodHandle" ∧ yX5_blocked.cls ≠ "java/lang/invoke/VarHandle" ∧ (parseMethodDescriptor yX5_blocked.desc).map (fun d => d.parameters.length) = some 3 := k_X5_blocked.2
theorem k_X5_blockerOf : yX5_blockerOf.cls = RX5 ∧ yX5_blockerOf.cls ≠ "java/lang/invoke/MethodHandle" ∧ yX5_blockerOf.cls ≠ "java/lang/invoke/VarHandle" ∧ (parseMethodDescriptor yX5_blockerOf.desc).map (fun d => d.parameters.length) = some 2 := by decide +kernel
theorem k_X5_blockerOfS : yX5_blockerOf.cls ≠ "java/lang/invoke/MethodHandle" ∧ yX5_blockerOf.cls ≠ "java/lang/invoke/VarHandle" ∧ (parseMethodDescriptor yX5_blockerOf.desc).map (fun d => d.parameters.length) = some 2 := k_X5_blockerOf.2
theorem k_X5_layWays : yX5_layWays.cls = RX5 ∧ yX5_layWays.cls ≠ "java/lang/invoke/MethodHandle" ∧ yX5_layWays.cls ≠ "java/lang/invoke/VarHandle" ∧ (parseMethodDescriptor yX5_layWays.desc).map (fun d => d.parameters.length) = some 0 := by decide +kernel
theorem k_X5_layWaysS : yX5_layWays.cls ≠ "java/lang/invoke/MethodHandle" ∧ yX5_layWays.cls ≠ "java/lang/invoke/VarHandle" ∧ (parseMethodDescriptor yX5_layWays.desc).map (fun d => d.parameters.length) = some 0 := k_X5_layWays.2
theorem k_X5_leastFor : yX5_leastFor.cls = RX5 ∧ yX5_leastFor.cls ≠ "java/lang/invoke/MethodHandle" ∧ yX5_leastFor.cls ≠ "java/lang/invoke/VarHandle" ∧ (parseMethodDescriptor yX5_leastFor.desc).map (fun d => d.parameters.length) = some 1 := by decide +kernel
theorem k_X5_leastForS : yX5_leastFor.cls ≠ "java/lang/invoke/MethodHandle" ∧ yX5_leastFor.cls ≠ "java/lang/invoke/VarHandle" ∧ (parseMethodDescriptor yX5_leastFor.desc).map (fun d => d.parameters.length) = some 1 := k_X5_leastFor.2
theorem k_X5_liftedThen : yX5_liftedThen.cls = RX5 ∧ yX5_liftedThen.cls ≠ "java/lang/invoke/MethodHandle" ∧ yX5_liftedThen.cls ≠ "java/lang/invoke/VarHandle" ∧ (parseMethodDescriptor yX5_liftedThen.desc).map (fun d => d.parameters.length) = some 2 := by decide +kernel
theorem k_X5_liftedThenS : yX5_liftedThen.cls ≠ "java/lang/invoke/MethodHandle" ∧ yX5_liftedThen.cls ≠ "java/lang/invoke/VarHandle" ∧ (parseMethodDescriptor yX5_liftedThen.desc).map (fun d => d.parameters.length) = some 2 := k_X5_liftedThen.2
theorem k_X5_longestFree : yX5_longestFree.cls = RX5 ∧ yX5_longestFree.cls ≠ "java/lang/invoke/MethodHandle" ∧ yX5_longestFree.cls ≠ "java/lang/invoke/VarHandle" ∧ (parseMethodDescriptor yX5_longestFree.desc).map (fun d => d.parameters.length) = some 0 := by decide +kernel
theorem k_X5_longestFreeS : yX5_longestFree.cls ≠ "java/lang/invoke/MethodHandle" ∧ yX5_longestFree.cls ≠ "java/lang/invoke/VarHandle" ∧ (parseMethodDescriptor yX5_longestFree.desc).map (fun d => d.parameters.length) = some 0 := k_X5_longestFree.2
theorem k_X5_mix : yX5_mix.cls = RX5 ∧ yX5_mix.cls ≠ "java/lang/invoke/MethodHandle" ∧ yX5_mix.cls ≠ "java/lang/invoke/VarHandle" ∧ (parseMethodDescriptor yX5_mix.desc).map (fun d => d.parameters.length) = some 1 := by decide +kernel
theorem k_X5_mixS : yX5_mix.cls ≠ "java/lang/invoke/MethodHandle" ∧ yX5_mix.cls ≠ "java/lang/invoke/VarHandle" ∧ (parseMethodDescriptor yX5_mix.desc).map (fun d => d.parameters.length) = some 1 := k_X5_mix.2
theorem k_X5_pairs : yX5_pairs.cls = RX5 ∧ yX5_pairs.cls ≠ "java/lang/invoke/MethodHandle" ∧ yX5_pairs.cls ≠ "java/lang/invoke/VarHandle" ∧ (parseMethodDescriptor yX5_pairs.desc).map (fun d => d.parameters.length) = some 0 := by decide +kernel
theorem k_X5_pairsS : yX5_pairs.cls ≠ "java/lang/invoke/MethodHandle" ∧ yX5_pairs.cls ≠ "java/lang/invoke/VarHandle" ∧ (parseMethodDescriptor yX5_pairs.desc).map (fun d => d.parameters.length) = some 0 := k_X5_pairs.2
theorem k_X5_put : yX5_put.cls = RX5 ∧ yX5_put.cls ≠ "java/lang/invoke/MethodHandle" ∧ yX5_put.cls ≠ "java/lang/invoke/VarHandle" ∧ (parseMethodDescriptor yX5_put.desc).map (fun d => d.parameters.length) = some 3 := by decide +kernel
theorem k_X5_putS : yX5_put.cls ≠ "java/lang/invoke/MethodHandle" ∧ yX5_put.cls ≠ "java/lang/invoke/VarHandle" ∧ (parseMethodDescriptor yX5_put.desc).map (fun d => d.parameters.length) = some 3 := k_X5_put.2
theorem k_X5_rowNow : yX5_rowNow.cls = RX5 ∧ yX5_rowNow.cls ≠ "java/lang/invoke/MethodHandle" ∧ yX5_rowNow.cls ≠ "java/lang/invoke/VarHandle" ∧ (parseMethodDescriptor yX5_rowNow.desc).map (fun d => d.parameters.length) = some 2 := by decide +kernel
theorem k_X5_rowNowS : yX5_rowNow.cls ≠ "java/lang/invoke/MethodHandle" ∧ yX5_rowNow.cls ≠ "java/lang/invoke/VarHandle" ∧ (parseMethodDescriptor yX5_rowNow.desc).map (fun d => d.parameters.length) = some 2 := k_X5_rowNow.2
theorem k_X5_seatNow : yX5_seatNow.cls = RX5 ∧ yX5_seatNow.cls ≠ "java/lang/invoke/MethodHandle" ∧ yX5_seatNow.cls ≠ "java/lang/invoke/VarHandle" ∧ (parseMethodDescriptor yX5_seatNow.desc).map (fun d => d.parameters.length) = some 3 := by decide +kernel
theorem k_X5_seatNowS : yX5_seatNow.cls ≠ "java/lang/invoke/MethodHandle" ∧ yX5_seatNow.cls ≠ "java/lang/invoke/VarHandle" ∧ (parseMethodDescriptor yX5_seatNow.desc).map (fun d => d.parameters.length) = some 3 := k_X5_seatNow.2
theorem k_X5_seatsAhead : yX5_seatsAhead.cls = RX5 ∧ yX5_seatsAhead.cls ≠ "java/lang/invoke/MethodHandle" ∧ yX5_seatsAhead.cls ≠ "java/lang/invoke/VarHandle" ∧ (parseMethodDescriptor yX5_seatsAhead.desc).map (fun d => d.parameters.length) = some 3 := by decide +kernel
theorem k_X5_seatsAheadS : yX5_seatsAhead.cls ≠ "java/lang/invoke/MethodHandle" ∧ yX5_seatsAhead.cls ≠ "java/lang/invoke/VarHandle" ∧ (parseMethodDescriptor yX5_seatsAhead.desc).map (fun d => d.parameters.length) = some 3 := k_X5_seatsAhead.2
theorem k_X5_seatsBehind : yX5_seatsBehind.cls = RX5 ∧ yX5_seatsBehind.cls ≠ "java/lang/invoke/MethodHandle" ∧ yX5_seatsBehind.cls ≠ "java/lang/invoke/VarHandle" ∧ (parseMethodDescriptor yX5_seatsBehind.desc).map (fun d => d.parameters.length) = some 1 := by decide +kernel
theorem k_X5_seatsBehindS : yX5_seatsBehind.cls ≠ "java/lang/invoke/MethodHandle" ∧ yX5_seatsBehind.cls ≠ "java/lang/invoke/VarHandle" ∧ (parseMethodDescriptor yX5_seatsBehind.desc).map (fun d => d.parameters.length) = some 1 := k_X5_seatsBehind.2
theorem k_X5_seeing : yX5_seeing.cls = RX5 ∧ yX5_seeing.cls ≠ "java/lang/invoke/MethodHandle" ∧ yX5_seeing.cls ≠ "java/lang/invoke/VarHandle" ∧ (parseMethodDescriptor yX5_seeing.desc).map (fun d => d.parameters.length) = some 1 := by decide +kernel
theorem k_X5_seeingS : yX5_seeing.cls ≠ "java/lang/invoke/MethodHandle" ∧ yX5_seeing.cls ≠ "java/lang/invoke/VarHandle" ∧ (parseMethodDescriptor yX5_seeing.desc).map (fun d => d.parameters.length) = some 1 := k_X5_seeing.2
theorem k_X5_takenThen : yX5_takenThen.cls = RX5 ∧ yX5_takenThen.cls ≠ "java/lang/invoke/MethodHandle" ∧ yX5_takenThen.cls ≠ "java/lang/invoke/VarHandle" ∧ (parseMethodDescriptor yX5_takenThen.desc).map (fun d => d.parameters.length) = some 2 := by decide +kernel
theorem k_X5_takenThenS : yX5_takenThen.cls ≠ "java/lang/invoke/MethodHandle" ∧ yX5_takenThen.cls ≠ "java/lang/invoke/VarHandle" ∧ (parseMethodDescriptor yX5_takenThen.desc).map (fun d => d.parameters.length) = some 2 := k_X5_takenThen.2
set_option maxRecDepth 20000 in
theorem iX5_put_5 : ∀ w ∈ wsX50, w ∈ wsX5_put := by decide +kernel
set_option maxHeartbeats 4000000 in
set_option maxRecDepth 100000 in
theorem c_X5_put (l : Launch) (D : va_G) (cI cC cH cL : ClassId) (a : Nat → Nat) (z zh tx pa wy : ZZ) (st le th rd nu pt : Int32) (za : Int64) (r0 : Nat) (wh : Nat) (v0 : Int32) (hi : 5 + 4 * r0 + wh < 57) : Met l yX5_put wsX5_put ({ frames := 0, cells := 0, slots := 0, locals := 0 }) (kw [.ref (a 0), .int (nI r0), .int (nI wh), .int v0] D (MW a cI z st zh le tx th pa rd nu pt wy za) (kT cI cC cH cL)) (kq D (MW a cI z st zh le tx th pa rd nu pt wy za) (MW a cI (upd z (5 + 4 * r0 + wh) v0) st zh le tx th pa rd nu pt wy za) (.returned none)) 0 0 (kA (MW a cI z st zh le tx th pa rd nu pt wy za)) := by
  refine Met.ofW (cc := cX5_put) (maxL := 4) (ret := none) (by decide) rfl ?_
  intro p e s m args below meth c s₁ B hml hv
  obtain ⟨rfl, hP, hK, hD0⟩ := hv
  have hx := B.exec
  have hb := B.bytes
  have hrt := B.returns
  have hts := atoms_spec (ws := wsX5_put) B.pre
  have hown : s.vm.findClass RX5 = some m.cls := findClass_of_methodNamed B.named
  have hlocks := B.notSynchronized
  have hl := lv_entry ([.ref (a 0), .int (nI r0), .int (nI wh), .int v0]) (n := 4) (Nat.le_of_ble_eq_true rfl)
  rw [lg_entry_eq]
  generalize (lg_sl ([.ref (a 0), .int (nI r0), .int (nI wh), .int v0]) ++ List.replicate (4 - (lg_sl ([.ref (a 0), .int (nI r0), .int (nI wh), .int v0])).length) Slot.unset).toArray = ls at hl ⊢
  have hl : lv_has ls 4 [(0, .ref (a 0)), (1, .int (nI r0)), (2, .int (nI wh)), (3, .int v0)] := hl
  have hD := kA_self hD0
  obtain ⟨w0, hw0⟩ : ∃ w : va_W, w = MW a cI z st zh le tx th pa rd nu pt wy za := ⟨_, rfl⟩
  have hD : va_D (kA w0) (MW a cI z st zh le tx th pa rd nu pt wy za) := by rw [hw0]; exact hD
  have hS : va_S (kA w0) s.heap s.heap [] := va_S.rf
  rw [show kA (MW a cI z st zh le tx th pa rd nu pt wy za) = kA w0 from by rw [hw0], show kq D (MW a cI z st zh le tx th pa rd nu pt wy za) = kq D w0 from by rw [hw0]]
  have hP : va_P D vwCl (MW a cI z st zh le tx th pa rd nu pt wy za) s.heap := hP
  refine lv_aload_n hx hb dX5_put_0 rfl (lv_at hl 0 rfl) ?_
  refine va_get (D := D) (ci := 5) (v := .ref (a 1)) (C := RX5) (T := TX5) (N := 12) hx hb hts iX5_put_5 hown hK hP 0 rfl rfl 0 (by decide) (hts (.fieldLink RX5 7 "HallSightsModel" "z" "[I") (List.mem_of_getElem? (i := 1) rfl)) (fun _ h9 => h9) rfl dX5_put_1 ?_
  refine lv_iconst (v := nI 5) hx hb dX5_put_4 (by decide) ?_
  refine lv_iconst (v := nI 4) hx hb dX5_put_5 (by decide) ?_
  refine lv_iload_n hx hb dX5_put_6 rfl (lv_at hl 1 rfl) ?_
  refine kx_imul hx hb dX5_put_7 ?_
  refine kx_iadd hx hb dX5_put_8 ?_
  refine lv_iload_n hx hb dX5_put_9 rfl (lv_at hl 2 rfl) ?_
  refine kx_iadd hx hb dX5_put_10 ?_
  refine lv_iload_n hx hb dX5_put_11 rfl (lv_at hl 3 rfl) ?_
  refine kx_iast hx hb hK hP hD hS 1 0 rfl rfl (by omega) (by decide) dX5_put_12 (fun H locs hP hD hS => ?_)
  have hP : va_P D vwCl (MW a cI (upd z ((5 + (4 * r0)) + wh) v0) st zh le tx th pa rd nu pt wy za) H := hP
  have hD : va_D (kA w0) (MW a cI (upd z ((5 + (4 * r0)) + wh) v0) st zh le tx th pa rd nu pt wy za) := hD
  have ec_z_0 : ((upd z ((5 + (4 * r0)) + wh) v0) : ZZ) = (upd z (5 + 4 * r0 + wh) v0) := by first | rfl | omega | (simp [Int32.not_lt, Int32.not_le]; done) | (simp [Int32.not_lt, Int32.not_le]; omega)
  have ew_1 : (MW a cI (upd z ((5 + (4 * r0)) + wh) v0) st zh le tx th pa rd nu pt wy za : va_W) = (MW a cI (upd z (5 + 4 * r0 + wh) v0) st zh le tx th pa rd nu pt wy za) := mw_c ec_z_0 rfl rfl rfl rfl rfl rfl rfl rfl rfl rfl rfl
  rw [ew_1] at hP hD
  subst hw0
  exact kq_vret hx hb hrt hlocks hP hD hS dX5_put_13
set_option maxRecDepth 20000 in
theorem iX5_mix_5 : ∀ w ∈ wsX50, w ∈ wsX5_mix := by decide +kernel
set_option maxHeartbeats 4000000 in
set_option maxRecDepth 100000 in
theorem c_X5_mix (l : Launch) (D : va_G) (cI cC cH cL : ClassId) (a : Nat → Nat) (z zh tx pa wy : ZZ) (st le th rd nu pt : Int32) (za : Int64) (v0 : Int64)  : Met l yX5_mix wsX5_mix ({ frames := 0, cells := 0, slots := 0, locals := 0 }) (kw [.ref (a 0), .long v0] D (MW a cI z st zh le tx th pa rd nu pt wy za) (kT cI cC cH cL)) (kq D (MW a cI z st zh le tx th pa rd nu pt wy za) (MW a cI z st zh le tx th pa rd nu pt wy (mixL za v0)) (.returned none)) 0 0 (kA (MW a cI z st zh le tx th pa rd nu pt wy za)) := by
  refine Met.ofW (cc := cX5_mix) (maxL := 3) (ret := none) (by decide) rfl ?_
  intro p e s m args below meth c s₁ B hml hv
  obtain ⟨rfl, hP, hK, hD0⟩ := hv
  have hx := B.exec
  have hb := B.bytes
  have hrt := B.returns
  have hts := atoms_spec (ws := wsX5_mix) B.pre
  have hown : s.vm.findClass RX5 = some m.cls := findClass_of_methodNamed B.named
  have hlocks := B.notSynchronized
  have hl := lv_entry ([.ref (a 0), .long v0]) (n := 3) (Nat.le_of_ble_eq_true rfl)
  rw [lg_entry_eq]
  generalize (lg_sl ([.ref (a 0), .long v0]) ++ List.replicate (3 - (lg_sl ([.ref (a 0), .long v0])).length) Slot.unset).toArray = ls at hl ⊢
  have hl : lv_has ls 3 [(0, .ref (a 0)), (1, .long v0)] := hl
  have hD := kA_self hD0
  obtain ⟨w0, hw0⟩ : ∃ w : va_W, w = MW a cI z st zh le tx th pa rd nu pt wy za := ⟨_, rfl⟩
  have hD : va_D (kA w0) (MW a cI z st zh le tx th pa rd nu pt wy za) := by rw [hw0]; exact hD
  have hS : va_S (kA w0) s.heap s.heap [] := va_S.rf
  rw [show kA (MW a cI z st zh le tx th pa rd nu pt wy za) = kA w0 from by rw [hw0], show kq D (MW a cI z st zh le tx th pa rd nu pt wy za) = kq D w0 from by rw [hw0]]
  have hP : va_P D vwCl (MW a cI z st zh le tx th pa rd nu pt wy za) s.heap := hP
  refine lv_aload_n hx hb dX5_mix_0 rfl (lv_at hl 0 rfl) ?_
  refine lv_ldc2 (v := 31) hx hb hown (hts (.constantLong RX5 219 (31)) (List.mem_of_getElem? (i := 1) rfl)) dX5_mix_1 ?_
  refine lv_aload_n hx hb dX5_mix_4 rfl (lv_at hl 0 rfl) ?_
  refine va_get (D := D) (ci := 5) (v := .long za) (C := RX5) (T := TX5) (N := 12) hx hb hts iX5_mix_5 hown hK hP 0 rfl rfl 11 (by decide) (hts (.fieldLink RX5 221 "HallSightsModel" "hash" "J") (List.mem_of_getElem? (i := 2) rfl)) (fun _ h9 => h9) rfl dX5_mix_5 ?_
  refine lv_lmul hx hb dX5_mix_8 ?_
  refine lv_lload_n hx hb dX5_mix_9 rfl (lv_at hl 1 rfl) ?_
  refine lv_ladd hx hb dX5_mix_10 ?_
  refine va_put (D := D) (ci := 5) (v := .long ((31 * za) + v0)) (ty := .long) (C := RX5) (T := TX5) (N := 12) hx hb hts iX5_mix_5 tyX5 tyX5_ok nmX5 hown hK hP hD hS 0 rfl rfl 11 (by decide) (hts (.fieldLink RX5 221 "HallSightsModel" "hash" "J") (List.mem_of_getElem? (i := 2) rfl)) (fun _ h9 => h9) rfl (by decide +kernel) rfl rfl (Nat.le_of_ble_eq_true rfl) dX5_mix_11 (fun H locs hP hD hS => ?_)
  have hP : va_P D vwCl (MW a cI z st zh le tx th pa rd nu pt wy ((31 * za) + v0)) H := hP
  have hD : va_D (kA w0) (MW a cI z st zh le tx th pa rd nu pt wy ((31 * za) + v0)) := hD
  have ec_za_0 : (((31 * za) + v0) : Int64) = (mixL za v0) := by first | rfl | omega | (simp [mixL, Int32.not_lt, Int32.not_le]; done) | (simp [mixL, Int32.not_lt, Int32.not_le]; omega)
  have ew_1 : (MW a cI z st zh le tx th pa rd nu pt wy ((31 * za) + v0) : va_W) = (MW a cI z st zh le tx th pa rd nu pt wy (mixL za v0)) := mw_c rfl rfl rfl rfl rfl rfl rfl rfl rfl rfl rfl ec_za_0
  rw [ew_1] at hP hD
  subst hw0
  exact kq_vret hx hb hrt hlocks hP hD hS dX5_mix_14
set_option maxRecDepth 20000 in
theorem iX5_layWays_5 : ∀ w ∈ wsX50, w ∈ wsX5_layWays := by decide +kernel
set_option maxHeartbeats 4000000 in
set_option maxRecDepth 100000 in
theorem c_X5_layWays (l : Launch) (D : va_G) (cI cC cH cL : ClassId) (a : Nat → Nat) (z zh tx pa wy : ZZ) (st le th rd nu pt : Int32) (za : Int64)  (hw : WF z) : Met l yX5_layWays wsX5_layWays ({ frames := 5, cells := 0, slots := 0, locals := 118 }) (kw [.ref (a 0)] D (MW a cI z st zh le tx th pa rd nu pt wy za) (kT cI cC cH cL)) (kq D (MW a cI z st zh le tx th pa rd nu pt wy za) (MW a cI z st zh le tx th pa rd nu pt (layF z wy) za) (.returned none)) 0 0 (kA (MW a cI z st zh le tx th pa rd nu pt wy za)) := by
  refine Met.ofW (cc := cX5_layWays) (maxL := 3) (ret := none) (by decide) rfl ?_
  intro p e s m args below meth c s₁ B hml hv
  obtain ⟨rfl, hP, hK, hD0⟩ := hv
  have hx := B.exec
  have hb := B.bytes
  have hrt := B.returns
  have hts := atoms_spec (ws := wsX5_layWays) B.pre
  have hown : s.vm.findClass RX5 = some m.cls := findClass_of_methodNamed B.named
  have hlocks := B.notSynchronized
  have hl := lv_entry ([.ref (a 0)]) (n := 3) (Nat.le_of_ble_eq_true rfl)
  rw [lg_entry_eq]
  generalize (lg_sl ([.ref (a 0)]) ++ List.replicate (3 - (lg_sl ([.ref (a 0)])).length) Slot.unset).toArray = ls at hl ⊢
  have hl : lv_has ls 3 [(0, .ref (a 0))] := hl
  have hD := kA_self hD0
  obtain ⟨w0, hw0⟩ : ∃ w : va_W, w = MW a cI z st zh le tx th pa rd nu pt wy za := ⟨_, rfl⟩
  have hD : va_D (kA w0) (MW a cI z st zh le tx th pa rd nu pt wy za) := by rw [hw0]; exact hD
  have hS : va_S (kA w0) s.heap s.heap [] := va_S.rf
  rw [show kA (MW a cI z st zh le tx th pa rd nu pt wy za) = kA w0 from by rw [hw0], show kq D (MW a cI z st zh le tx th pa rd nu pt wy za) = kq D w0 from by rw [hw0]]
  have hP : va_P D vwCl (MW a cI z st zh le tx th pa rd nu pt wy za) s.heap := hP
  have hR10 := wf_R10 hw
  have hC4 := wf_C4 hw
  refine lv_iconst (v := nI 0) hx hb dX5_layWays_0 (by decide) ?_
  refine lv_istore_n (lv' := [(1, .int (nI 0)), (0, .ref (a 0))]) hx hb dX5_layWays_1 rfl hl (by decide) rfl (fun ls hl => ?_)
  have ec_wy_0 : (wy : ZZ) = (itN 0 (layR z) wy) := by first | rfl | omega | (simp [layF, layR, layS, itN_s, Int32.not_lt, Int32.not_le]; done) | (simp [layF, layR, layS, itN_s, Int32.not_lt, Int32.not_le]; omega)
  have ew_1 : (MW a cI z st zh le tx th pa rd nu pt wy za : va_W) = (MW a cI z st zh le tx th pa rd nu pt (itN 0 (layR z) wy) za) := mw_c rfl rfl rfl rfl rfl rfl rfl rfl rfl rfl ec_wy_0 rfl
  rw [ew_1] at hP hD
  refine kx_upW (fun k H locs ls => (va_P D vwCl (MW a cI z st zh le tx th pa rd nu pt (itN k (layR z) wy) za) H ∧ va_D (kA w0) (MW a cI z st zh le tx th pa rd nu pt (itN k (layR z) wy) za) ∧ va_S (kA w0) s.heap H locs) ∧ lv_has ls 3 [(0, .ref (a 0)), (1, .int (nI k))]) (0) (nR z) (by omega) _ _ ls ⟨⟨hP, hD, hS⟩, (lv_sub hl [1, 0] rfl)⟩ ?_
  clear hP hD hS
  intro ir H locs ls hirl hirh hp ih2
  obtain ⟨⟨hP, hD, hS⟩, hp⟩ := hp
  have hl := hp
  refine lv_iload_n hx hb dX5_layWays_2 rfl (lv_at hl 1 rfl) ?_
  refine lv_aload_n hx hb dX5_layWays_3 rfl (lv_at hl 0 rfl) ?_
  refine va_get (D := D) (ci := 5) (v := .ref (a 1)) (C := RX5) (T := TX5) (N := 12) hx hb hts iX5_layWays_5 hown hK hP 0 rfl rfl 0 (by decide) (hts (.fieldLink RX5 7 "HallSightsModel" "z" "[I") (List.mem_of_getElem? (i := 1) rfl)) (fun _ h9 => h9) rfl dX5_layWays_4 ?_
  refine lv_iconst (v := nI 3) hx hb dX5_layWays_7 (by decide) ?_
  refine kx_iald hx hb hK hP 1 0 rfl rfl (by omega) (by decide) dX5_layWays_8 ?_
  refine kx_top (wf_R hw) ?_
  refine kx_icmp_ge (tgt := 53) hx hb (by omega) (by omega) dX5_layWays_9 (by decide) (fun c_9_2 => ?_) (fun c_9_3 => ?_)
  · have hq4 : nR z = ir := by omega
    subst hq4
    have ec_wy_5 : ((itN (nR z) (layR z) wy) : ZZ) = (layF z wy) := by first | rfl | omega | (simp [layF, layR, layS, itN_s, Int32.not_lt, Int32.not_le, c_9_2, Nat.not_lt.mpr c_9_2]; done) | (simp [layF, layR, layS, itN_s, Int32.not_lt, Int32.not_le, c_9_2, Nat.not_lt.mpr c_9_2]; omega) | (revert c_9_2; simp +contextual [layF, layR, layS, itN_s, Int32.not_lt, Int32.not_le]; done) | (revert c_9_2; simp +contextual [layF, layR, layS, itN_s, Int32.not_lt, Int32.not_le]; omega)
    have ew_6 : (MW a cI z st zh le tx th pa rd nu pt (itN (nR z) (layR z) wy) za : va_W) = (MW a cI z st zh le tx th pa rd nu pt (layF z wy) za) := mw_c rfl rfl rfl rfl rfl rfl rfl rfl rfl rfl ec_wy_5 rfl
    rw [ew_6] at hP hD
    subst hw0
    exact kq_vret hx hb hrt hlocks hP hD hS dX5_layWays_53
  · refine lv_iconst (v := nI 0) hx hb dX5_layWays_12 (by decide) ?_
    refine lv_istore_n (lv' := [(2, .int (nI 0)), (0, .ref (a 0)), (1, .int (nI ir))]) hx hb dX5_layWays_13 rfl hl (by decide) rfl (fun ls hl => ?_)
    have ec_wy_7 : ((itN ir (layR z) wy) : ZZ) = (itN 0 (layS z ir) (itN ir (layR z) wy)) := by first | rfl | omega | (simp [layF, layR, layS, itN_s, Int32.not_lt, Int32.not_le, c_9_3, Nat.not_le.mpr c_9_3]; done) | (simp [layF, layR, layS, itN_s, Int32.not_lt, Int32.not_le, c_9_3, Nat.not_le.mpr c_9_3]; omega) | (revert c_9_3; simp +contextual [layF, layR, layS, itN_s, Int32.not_lt, Int32.not_le]; done) | (revert c_9_3; simp +contextual [layF, layR, layS, itN_s, Int32.not_lt, Int32.not_le]; omega)
    have ew_8 : (MW a cI z st zh le tx th pa rd nu pt (itN ir (layR z) wy) za : va_W) = (MW a cI z st zh le tx th pa rd nu pt (itN 0 (layS z ir) (itN ir (layR z) wy)) za) := mw_c rfl rfl rfl rfl rfl rfl rfl rfl rfl rfl ec_wy_7 rfl
    rw [ew_8] at hP hD
    refine kx_upW (fun k H locs ls => (va_P D vwCl (MW a cI z st zh le tx th pa rd nu pt (itN k (layS z ir) (itN ir (layR z) wy)) za) H ∧ va_D (kA w0) (MW a cI z st zh le tx th pa rd nu pt (itN k (layS z ir) (itN ir (layR z) wy)) za) ∧ va_S (kA w0) s.heap H locs) ∧ lv_has ls 3 [(0, .ref (a 0)), (1, .int (nI ir)), (2, .int (nI k))]) (0) (nS z ir) (by omega) _ _ ls ⟨⟨hP, hD, hS⟩, (lv_sub hl [1, 2, 0] rfl)⟩ ?_
    clear hP hD hS
    intro iw H locs ls hiwl hiwh hp ih14
    obtain ⟨⟨hP, hD, hS⟩, hp⟩ := hp
    have hl := hp
    have hS14 := wf_S12 hw (show ir < nR z by omega)
    refine lv_iload_n hx hb dX5_layWays_14 rfl (lv_at hl 2 rfl) ?_
    refine lv_aload_n hx hb dX5_layWays_15 rfl (lv_at hl 0 rfl) ?_
    refine lv_iload_n hx hb dX5_layWays_16 rfl (lv_at hl 1 rfl) ?_
    refine lv_iconst (v := nI 2) hx hb dX5_layWays_17 (by decide) ?_
    refine kr_V (As := [.int (nI ir), .int (nI 2)]) (rest := [.int (nI iw)]) (C := RX5) (own := RX5) ⟨hx, hb, hml, hown, hts⟩ (c_X5_of l D cI cC cH cL a z zh tx pa (itN iw (layS z ir) (itN ir (layR z) wy)) st le th rd nu pt za ir 2 (by first | assumption | omega)) (cwV 2 hts gX5_layWays_X5_of rfl rfl rfl k_X5_of ⟨Nat.le_of_ble_eq_true rfl, Nat.le_of_ble_eq_true rfl⟩) hP hK (va_recv (q := (RX5, TX5, 12)) hK hP (ci := 5) (q0 := 0) rfl rfl) rfl hl.1 rfl (Nat.le_of_ble_eq_true rfl) dX5_layWays_18 ⟨Nat.le_of_ble_eq_true rfl, Nat.le_of_ble_eq_true rfl⟩ ?_
    refine kx_top (wf_S hw (show (ir) < nR z by omega)) ?_
    have hS12_9 := wf_S12 hw (show (ir) < nR z by omega)
    refine kx_icmp_ge (tgt := 47) hx hb (by omega) (by omega) dX5_layWays_21 (by decide) (fun c_21_10 => ?_) (fun c_21_11 => ?_)
    · have hq12 : nS z ir = iw := by omega
      subst hq12
      refine lv_iinc (v := nI (ir + 1)) (lv' := [(1, .int (nI (ir + 1))), (0, .ref (a 0)), (2, .int (nI (nS z ir)))]) hx hb dX5_layWays_47 hl (k := 1) rfl (kx_inc 1) (by decide) rfl (fun ls hl => ?_)
      refine lv_goto (tgt := 2) hx hb dX5_layWays_50 (by decide) ?_
      have e2_13 : (ir + 1 : Nat) = ((ir + 1)) := by first | rfl | omega | (simp [layF, layR, layS, itN_s, Int32.not_lt, Int32.not_le, c_9_3, Nat.not_le.mpr c_9_3, c_21_10, Nat.not_lt.mpr c_21_10]; done) | (simp [layF, layR, layS, itN_s, Int32.not_lt, Int32.not_le, c_9_3, Nat.not_le.mpr c_9_3, c_21_10, Nat.not_lt.mpr c_21_10]; omega) | (revert c_9_3 c_21_10; simp +contextual [layF, layR, layS, itN_s, Int32.not_lt, Int32.not_le]; done) | (revert c_9_3 c_21_10; simp +contextual [layF, layR, layS, itN_s, Int32.not_lt, Int32.not_le]; omega)
      have hl2_14 : lv_has ls 3 [(0, .ref (a 0)), (1, .int (nI (ir + 1)))] := lv_eqv (l1 := [(0, .ref (a 0)), (1, .int (nI (ir + 1)))]) (lv_sub hl [1, 0] rfl) (lv_ce rfl (lv_ce (congrArg (fun x => Value.int (nI x)) e2_13) rfl))
      have ec_wy_15 : ((itN (nS z ir) (layS z ir) (itN ir (layR z) wy)) : ZZ) = (itN (ir + 1) (layR z) wy) := by first | rfl | omega | (simp [layF, layR, layS, itN_s, Int32.not_lt, Int32.not_le, c_9_3, Nat.not_le.mpr c_9_3, c_21_10, Nat.not_lt.mpr c_21_10]; done) | (simp [layF, layR, layS, itN_s, Int32.not_lt, Int32.not_le, c_9_3, Nat.not_le.mpr c_9_3, c_21_10, Nat.not_lt.mpr c_21_10]; omega) | (revert c_9_3 c_21_10; simp +contextual [layF, layR, layS, itN_s, Int32.not_lt, Int32.not_le]; done) | (revert c_9_3 c_21_10; simp +contextual [layF, layR, layS, itN_s, Int32.not_lt, Int32.not_le]; omega)
      have ew_16 : (MW a cI z st zh le tx th pa rd nu pt (itN (nS z ir) (layS z ir) (itN ir (layR z) wy)) za : va_W) = (MW a cI z st zh le tx th pa rd nu pt (itN (ir + 1) (layR z) wy) za) := mw_c rfl rfl rfl rfl rfl rfl rfl rfl rfl rfl ec_wy_15 rfl
      rw [ew_16] at hP hD
      exact ih2 _ _ _ (by omega) ⟨⟨hP, hD, hS⟩, hl2_14⟩
    · refine lv_aload_n hx hb dX5_layWays_24 rfl (lv_at hl 0 rfl) ?_
      refine va_get (D := D) (ci := 5) (v := .ref (a 5)) (C := RX5) (T := TX5) (N := 12) hx hb hts iX5_layWays_5 hown hK hP 0 rfl rfl 10 (by decide) (hts (.fieldLink RX5 22 "HallSightsModel" "ways" "[I") (List.mem_of_getElem? (i := 2) rfl)) (fun _ h9 => h9) rfl dX5_layWays_25 ?_
      refine lv_bipush (v := nI 12) hx hb dX5_layWays_28 (by decide) ?_
      refine lv_iload_n hx hb dX5_layWays_30 rfl (lv_at hl 1 rfl) ?_
      refine kx_imul hx hb dX5_layWays_31 ?_
      refine lv_iload_n hx hb dX5_layWays_32 rfl (lv_at hl 2 rfl) ?_
      refine kx_iadd hx hb dX5_layWays_33 ?_
      refine lv_aload_n hx hb dX5_layWays_34 rfl (lv_at hl 0 rfl) ?_
      refine lv_iload_n hx hb dX5_layWays_35 rfl (lv_at hl 1 rfl) ?_
      refine lv_iload_n hx hb dX5_layWays_36 rfl (lv_at hl 2 rfl) ?_
      refine kr_V (As := [.int (nI ir), .int (nI iw)]) (rest := [.int (nI ((12 * ir) + iw)), .ref (a 5)]) (C := RX5) (own := RX5) ⟨hx, hb, hml, hown, hts⟩ (c_X5_inWay l D cI cC cH cL a z zh tx pa (itN iw (layS z ir) (itN ir (layR z) wy)) st le th rd nu pt za ir iw (by first | assumption | omega) (by first | assumption | omega)) (cwV 2 hts gX5_layWays_X5_inWay rfl rfl rfl k_X5_inWay ⟨Nat.le_of_ble_eq_true rfl, Nat.le_of_ble_eq_true rfl⟩) hP hK (va_recv (q := (RX5, TX5, 12)) hK hP (ci := 5) (q0 := 0) rfl rfl) rfl hl.1 rfl (Nat.le_of_ble_eq_true rfl) dX5_layWays_37 ⟨Nat.le_of_ble_eq_true rfl, Nat.le_of_ble_eq_true rfl⟩ ?_
      refine kx_iast hx hb hK hP hD hS 5 0 rfl rfl (by omega) (by decide) dX5_layWays_40 (fun H locs hP hD hS => ?_)
      have hP : va_P D vwCl (MW a cI z st zh le tx th pa rd nu pt (upd (itN iw (layS z ir) (itN ir (layR z) wy)) ((12 * ir) + iw) (nI (ways z ir iw))) za) H := hP
      have hD : va_D (kA w0) (MW a cI z st zh le tx th pa rd nu pt (upd (itN iw (layS z ir) (itN ir (layR z) wy)) ((12 * ir) + iw) (nI (ways z ir iw))) za) := hD
      refine lv_iinc (v := nI (iw + 1)) (lv' := [(2, .int (nI (iw + 1))), (0, .ref (a 0)), (1, .int (nI ir))]) hx hb dX5_layWays_41 hl (k := 2) rfl (kx_inc 1) (by decide) rfl (fun ls hl => ?_)
      refine lv_goto (tgt := 14) hx hb dX5_layWays_44 (by decide) ?_
      have e14_17 : (iw + 1 : Nat) = ((iw + 1)) := by first | rfl | omega | (simp [layF, layR, layS, itN_s, Int32.not_lt, Int32.not_le, c_9_3, Nat.not_le.mpr c_9_3, c_21_11, Nat.not_le.mpr c_21_11]; done) | (simp [layF, layR, layS, itN_s, Int32.not_lt, Int32.not_le, c_9_3, Nat.not_le.mpr c_9_3, c_21_11, Nat.not_le.mpr c_21_11]; omega) | (revert c_9_3 c_21_11; simp +contextual [layF, layR, layS, itN_s, Int32.not_lt, Int32.not_le]; done) | (revert c_9_3 c_21_11; simp +contextual [layF, layR, layS, itN_s, Int32.not_lt, Int32.not_le]; omega)
      have hl14_18 : lv_has ls 3 [(0, .ref (a 0)), (1, .int (nI ir)), (2, .int (nI (iw + 1)))] := lv_eqv (l1 := [(0, .ref (a 0)), (1, .int (nI ir)), (2, .int (nI (iw + 1)))]) (lv_sub hl [1, 2, 0] rfl) (lv_ce rfl (lv_ce rfl (lv_ce (congrArg (fun x => Value.int (nI x)) e14_17) rfl)))
      have ec_wy_19 : ((upd (itN iw (layS z ir) (itN ir (layR z) wy)) ((12 * ir) + iw) (nI (ways z ir iw))) : ZZ) = (itN (iw + 1) (layS z ir) (itN ir (layR z) wy)) := by first | rfl | omega | (simp [layF, layR, layS, itN_s, Int32.not_lt, Int32.not_le, c_9_3, Nat.not_le.mpr c_9_3, c_21_11, Nat.not_le.mpr c_21_11]; done) | (simp [layF, layR, layS, itN_s, Int32.not_lt, Int32.not_le, c_9_3, Nat.not_le.mpr c_9_3, c_21_11, Nat.not_le.mpr c_21_11]; omega) | (revert c_9_3 c_21_11; simp +contextual [layF, layR, layS, itN_s, Int32.not_lt, Int32.not_le]; done) | (revert c_9_3 c_21_11; simp +contextual [layF, layR, layS, itN_s, Int32.not_lt, Int32.not_le]; omega)
      have ew_20 : (MW a cI z st zh le tx th pa rd nu pt (upd (itN iw (layS z ir) (itN ir (layR z) wy)) ((12 * ir) + iw) (nI (ways z ir iw))) za : va_W) = (MW a cI z st zh le tx th pa rd nu pt (itN (iw + 1) (layS z ir) (itN ir (layR z) wy)) za) := mw_c rfl rfl rfl rfl rfl rfl rfl rfl rfl rfl ec_wy_19 rfl
      rw [ew_20] at hP hD
      exact ih14 _ _ _ (by omega) ⟨⟨hP, hD, hS⟩, hl14_18⟩
set_option maxRecDepth 20000 in
theorem iX5_save_5 : ∀ w ∈ wsX50, w ∈ wsX5_save := by decide +kernel
set_option maxHeartbeats 4000000 in
set_option maxRecDepth 100000 in
theorem c_X5_save (l : Launch) (D : va_G) (cI cC cH cL : ClassId) (a : Nat → Nat) (z zh tx pa wy : ZZ) (ns nl : Nat) (th rd nu pt : Int32) (za : Int64)  (hn : ns ≤ 6) : Met l yX5_save wsX5_save ({ frames := 0, cells := 0, slots := 0, locals := 0 }) (kw [.ref (a 0)] D (MW a cI z (nI ns) zh (nI nl) tx th pa rd nu pt wy za) (kT cI cC cH cL)) (kq D (MW a cI z (nI ns) zh (nI nl) tx th pa rd nu pt wy za) (MW a cI z (nI (saveN ns)) (saveH z zh ns) (nI nl) tx th pa rd nu pt wy za) (.returned none)) 0 0 (kA (MW a cI z (nI ns) zh (nI nl) tx th pa rd nu pt wy za)) := by
  refine Met.ofW (cc := cX5_save) (maxL := 2) (ret := none) (by decide) rfl ?_
  intro p e s m args below meth c s₁ B hml hv
  obtain ⟨rfl, hP, hK, hD0⟩ := hv
  have hx := B.exec
  have hb := B.bytes
  have hrt := B.returns
  have hts := atoms_spec (ws := wsX5_save) B.pre
  have hown : s.vm.findClass RX5 = some m.cls := findClass_of_methodNamed B.named
  have hlocks := B.notSynchronized
  have hl := lv_entry ([.ref (a 0)]) (n := 2) (Nat.le_of_ble_eq_true rfl)
  rw [lg_entry_eq]
  generalize (lg_sl ([.ref (a 0)]) ++ List.replicate (2 - (lg_sl ([.ref (a 0)])).length) Slot.unset).toArray = ls at hl ⊢
  have hl : lv_has ls 2 [(0, .ref (a 0))] := hl
  have hD := kA_self hD0
  obtain ⟨w0, hw0⟩ : ∃ w : va_W, w = MW a cI z (nI ns) zh (nI nl) tx th pa rd nu pt wy za := ⟨_, rfl⟩
  have hD : va_D (kA w0) (MW a cI z (nI ns) zh (nI nl) tx th pa rd nu pt wy za) := by rw [hw0]; exact hD
  have hS : va_S (kA w0) s.heap s.heap [] := va_S.rf
  rw [show kA (MW a cI z (nI ns) zh (nI nl) tx th pa rd nu pt wy za) = kA w0 from by rw [hw0], show kq D (MW a cI z (nI ns) zh (nI nl) tx th pa rd nu pt wy za) = kq D w0 from by rw [hw0]]
  have hP : va_P D vwCl (MW a cI z (nI ns) zh (nI nl) tx th pa rd nu pt wy za) s.heap := hP
  refine lv_aload_n hx hb dX5_save_0 rfl (lv_at hl 0 rfl) ?_
  refine va_get (D := D) (ci := 5) (v := .int (nI ns)) (C := RX5) (T := TX5) (N := 12) hx hb hts iX5_save_5 hown hK hP 0 rfl rfl 1 (by decide) (hts (.fieldLink RX5 29 "HallSightsModel" "states" "I") (List.mem_of_getElem? (i := 1) rfl)) (fun _ h9 => h9) rfl dX5_save_1 ?_
  refine lv_bipush (v := nI 6) hx hb dX5_save_4 (by decide) ?_
  refine kx_icmp_ne (tgt := 50) hx hb (by omega) (by omega) dX5_save_6 (by decide) (fun c_6_0 => ?_) (fun c_6_1 => ?_)
  · refine lv_iconst (v := nI 0) hx hb dX5_save_50 (by decide) ?_
    refine lv_istore_n (lv' := [(1, .int (nI 0)), (0, .ref (a 0))]) hx hb dX5_save_51 rfl hl (by decide) rfl (fun ls hl => ?_)
    have ec_zh_2 : (zh : ZZ) = (cpH z zh ns 0) := by funext jj; simp only [upd, cpH]; (repeat' split) <;> first | rfl | omega | (exfalso; omega) | (congr 1; omega)
    have ew_3 : (MW a cI z (nI ns) zh (nI nl) tx th pa rd nu pt wy za : va_W) = (MW a cI z (nI ns) (cpH z zh ns 0) (nI nl) tx th pa rd nu pt wy za) := mw_c rfl rfl ec_zh_2 rfl rfl rfl rfl rfl rfl rfl rfl rfl
    rw [ew_3] at hP hD
    refine kx_upW (fun k H locs ls => (va_P D vwCl (MW a cI z (nI ns) (cpH z zh ns k) (nI nl) tx th pa rd nu pt wy za) H ∧ va_D (kA w0) (MW a cI z (nI ns) (cpH z zh ns k) (nI nl) tx th pa rd nu pt wy za) ∧ va_S (kA w0) s.heap H locs) ∧ lv_has ls 2 [(0, .ref (a 0)), (1, .int (nI k))]) (0) (57) (by omega) _ _ ls ⟨⟨hP, hD, hS⟩, (lv_sub hl [1, 0] rfl)⟩ ?_
    clear hP hD hS
    intro ik H locs ls hikl hikh hp ih52
    obtain ⟨⟨hP, hD, hS⟩, hp⟩ := hp
    have hl := hp
    refine lv_iload_n hx hb dX5_save_52 rfl (lv_at hl 1 rfl) ?_
    refine lv_bipush (v := nI 57) hx hb dX5_save_53 (by decide) ?_
    refine kx_icmp_ge (tgt := 84) hx hb (by omega) (by omega) dX5_save_55 (by decide) (fun c_55_4 => ?_) (fun c_55_5 => ?_)
    · have hq6 : 57 = ik := by omega
      subst hq6
      refine lv_aload_n hx hb dX5_save_84 rfl (lv_at hl 0 rfl) ?_
      refine lv_dup hx hb dX5_save_85 rfl ?_
      refine va_get (D := D) (ci := 5) (v := .int (nI ns)) (C := RX5) (T := TX5) (N := 12) hx hb hts iX5_save_5 hown hK hP 0 rfl rfl 1 (by decide) (hts (.fieldLink RX5 29 "HallSightsModel" "states" "I") (List.mem_of_getElem? (i := 1) rfl)) (fun _ h9 => h9) rfl dX5_save_86 ?_
      refine lv_iconst (v := nI 1) hx hb dX5_save_89 (by decide) ?_
      refine kx_iadd hx hb dX5_save_90 ?_
      refine va_put (D := D) (ci := 5) (v := .int (nI (ns + 1))) (ty := .int) (C := RX5) (T := TX5) (N := 12) hx hb hts iX5_save_5 tyX5 tyX5_ok nmX5 hown hK hP hD hS 0 rfl rfl 1 (by decide) (hts (.fieldLink RX5 29 "HallSightsModel" "states" "I") (List.mem_of_getElem? (i := 1) rfl)) (fun _ h9 => h9) rfl (by decide +kernel) rfl rfl (Nat.le_of_ble_eq_true rfl) dX5_save_91 (fun H locs hP hD hS => ?_)
      have hP : va_P D vwCl (MW a cI z (nI (ns + 1)) (cpH z zh ns 57) (nI nl) tx th pa rd nu pt wy za) H := hP
      have hD : va_D (kA w0) (MW a cI z (nI (ns + 1)) (cpH z zh ns 57) (nI nl) tx th pa rd nu pt wy za) := hD
      have ec_st_7 : ((nI (ns + 1)) : Int32) = (nI (saveN ns)) := by first | rfl | omega | (simp [saveH, saveN, Int32.not_lt, Int32.not_le, c_6_0, c_55_4, Nat.not_lt.mpr c_55_4]; done) | (simp [saveH, saveN, Int32.not_lt, Int32.not_le, c_6_0, c_55_4, Nat.not_lt.mpr c_55_4]; omega) | (revert c_6_0 c_55_4; simp +contextual [saveH, saveN, Int32.not_lt, Int32.not_le]; done) | (revert c_6_0 c_55_4; simp +contextual [saveH, saveN, Int32.not_lt, Int32.not_le]; omega)
      have ec_zh_8 : ((cpH z zh ns 57) : ZZ) = (saveH z zh ns) := by first | rfl | omega | (simp [saveH, saveN, Int32.not_lt, Int32.not_le, c_6_0, c_55_4, Nat.not_lt.mpr c_55_4]; done) | (simp [saveH, saveN, Int32.not_lt, Int32.not_le, c_6_0, c_55_4, Nat.not_lt.mpr c_55_4]; omega) | (revert c_6_0 c_55_4; simp +contextual [saveH, saveN, Int32.not_lt, Int32.not_le]; done) | (revert c_6_0 c_55_4; simp +contextual [saveH, saveN, Int32.not_lt, Int32.not_le]; omega)
      have ew_9 : (MW a cI z (nI (ns + 1)) (cpH z zh ns 57) (nI nl) tx th pa rd nu pt wy za : va_W) = (MW a cI z (nI (saveN ns)) (saveH z zh ns) (nI nl) tx th pa rd nu pt wy za) := mw_c rfl ec_st_7 ec_zh_8 rfl rfl rfl rfl rfl rfl rfl rfl rfl
      rw [ew_9] at hP hD
      subst hw0
      exact kq_vret hx hb hrt hlocks hP hD hS dX5_save_94
    · refine lv_aload_n hx hb dX5_save_58 rfl (lv_at hl 0 rfl) ?_
      refine va_get (D := D) (ci := 5) (v := .ref (a 2)) (C := RX5) (T := TX5) (N := 12) hx hb hts iX5_save_5 hown hK hP 0 rfl rfl 2 (by decide) (hts (.fieldLink RX5 13 "HallSightsModel" "history" "[I") (List.mem_of_getElem? (i := 2) rfl)) (fun _ h9 => h9) rfl dX5_save_59 ?_
      refine lv_bipush (v := nI 57) hx hb dX5_save_62 (by decide) ?_
      refine lv_aload_n hx hb dX5_save_64 rfl (lv_at hl 0 rfl) ?_
      refine va_get (D := D) (ci := 5) (v := .int (nI ns)) (C := RX5) (T := TX5) (N := 12) hx hb hts iX5_save_5 hown hK hP 0 rfl rfl 1 (by decide) (hts (.fieldLink RX5 29 "HallSightsModel" "states" "I") (List.mem_of_getElem? (i := 1) rfl)) (fun _ h9 => h9) rfl dX5_save_65 ?_
      refine kx_imul hx hb dX5_save_68 ?_
      refine lv_iload_n hx hb dX5_save_69 rfl (lv_at hl 1 rfl) ?_
      refine kx_iadd hx hb dX5_save_70 ?_
      refine lv_aload_n hx hb dX5_save_71 rfl (lv_at hl 0 rfl) ?_
      refine va_get (D := D) (ci := 5) (v := .ref (a 1)) (C := RX5) (T := TX5) (N := 12) hx hb hts iX5_save_5 hown hK hP 0 rfl rfl 0 (by decide) (hts (.fieldLink RX5 7 "HallSightsModel" "z" "[I") (List.mem_of_getElem? (i := 3) rfl)) (fun _ h9 => h9) rfl dX5_save_72 ?_
      refine lv_iload_n hx hb dX5_save_75 rfl (lv_at hl 1 rfl) ?_
      refine kx_iald hx hb hK hP 1 0 rfl rfl (by omega) (by decide) dX5_save_76 ?_
      refine kx_iast hx hb hK hP hD hS 2 0 rfl rfl (by omega) (by decide) dX5_save_77 (fun H locs hP hD hS => ?_)
      have hP : va_P D vwCl (MW a cI z (nI ns) (upd (cpH z zh ns ik) ((57 * ns) + ik) (z ik)) (nI nl) tx th pa rd nu pt wy za) H := hP
      have hD : va_D (kA w0) (MW a cI z (nI ns) (upd (cpH z zh ns ik) ((57 * ns) + ik) (z ik)) (nI nl) tx th pa rd nu pt wy za) := hD
      refine lv_iinc (v := nI (ik + 1)) (lv' := [(1, .int (nI (ik + 1))), (0, .ref (a 0))]) hx hb dX5_save_78 hl (k := 1) rfl (kx_inc 1) (by decide) rfl (fun ls hl => ?_)
      refine lv_goto (tgt := 52) hx hb dX5_save_81 (by decide) ?_
      have e52_10 : (ik + 1 : Nat) = ((ik + 1)) := by first | rfl | omega | (simp [saveH, saveN, Int32.not_lt, Int32.not_le, c_6_0, c_55_5, Nat.not_le.mpr c_55_5]; done) | (simp [saveH, saveN, Int32.not_lt, Int32.not_le, c_6_0, c_55_5, Nat.not_le.mpr c_55_5]; omega) | (revert c_6_0 c_55_5; simp +contextual [saveH, saveN, Int32.not_lt, Int32.not_le]; done) | (revert c_6_0 c_55_5; simp +contextual [saveH, saveN, Int32.not_lt, Int32.not_le]; omega)
      have hl52_11 : lv_has ls 2 [(0, .ref (a 0)), (1, .int (nI (ik + 1)))] := lv_eqv (l1 := [(0, .ref (a 0)), (1, .int (nI (ik + 1)))]) (lv_sub hl [1, 0] rfl) (lv_ce rfl (lv_ce (congrArg (fun x => Value.int (nI x)) e52_10) rfl))
      have ec_zh_12 : ((upd (cpH z zh ns ik) ((57 * ns) + ik) (z ik)) : ZZ) = (cpH z zh ns (ik + 1)) := by funext jj; simp only [upd, cpH]; (repeat' split) <;> first | rfl | omega | (exfalso; omega) | (congr 1; omega)
      have ew_13 : (MW a cI z (nI ns) (upd (cpH z zh ns ik) ((57 * ns) + ik) (z ik)) (nI nl) tx th pa rd nu pt wy za : va_W) = (MW a cI z (nI ns) (cpH z zh ns (ik + 1)) (nI nl) tx th pa rd nu pt wy za) := mw_c rfl rfl ec_zh_12 rfl rfl rfl rfl rfl rfl rfl rfl rfl
      rw [ew_13] at hP hD
      exact ih52 _ _ _ (by omega) ⟨⟨hP, hD, hS⟩, hl52_11⟩
  · refine lv_bipush (v := nI 57) hx hb dX5_save_9 (by decide) ?_
    refine lv_istore_n (lv' := [(1, .int (nI 57)), (0, .ref (a 0))]) hx hb dX5_save_11 rfl hl (by decide) rfl (fun ls hl => ?_)
    have ec_zh_14 : (zh : ZZ) = (shH zh 57) := by funext jj; simp only [upd, shH]; (repeat' split) <;> first | rfl | omega | (exfalso; omega) | (congr 1; omega)
    have ew_15 : (MW a cI z (nI ns) zh (nI nl) tx th pa rd nu pt wy za : va_W) = (MW a cI z (nI ns) (shH zh 57) (nI nl) tx th pa rd nu pt wy za) := mw_c rfl rfl ec_zh_14 rfl rfl rfl rfl rfl rfl rfl rfl rfl
    rw [ew_15] at hP hD
    refine kx_upW (fun k H locs ls => (va_P D vwCl (MW a cI z (nI ns) (shH zh k) (nI nl) tx th pa rd nu pt wy za) H ∧ va_D (kA w0) (MW a cI z (nI ns) (shH zh k) (nI nl) tx th pa rd nu pt wy za) ∧ va_S (kA w0) s.heap H locs) ∧ lv_has ls 2 [(0, .ref (a 0)), (1, .int (nI k))]) (57) (342) (by omega) _ _ ls ⟨⟨hP, hD, hS⟩, (lv_sub hl [1, 0] rfl)⟩ ?_
    clear hP hD hS
    intro ik H locs ls hikl hikh hp ih12
    obtain ⟨⟨hP, hD, hS⟩, hp⟩ := hp
    have hl := hp
    refine lv_iload_n hx hb dX5_save_12 rfl (lv_at hl 1 rfl) ?_
    refine lv_sipush (v := nI 342) hx hb dX5_save_13 (by decide) ?_
    refine kx_icmp_ge (tgt := 40) hx hb (by omega) (by omega) dX5_save_16 (by decide) (fun c_16_16 => ?_) (fun c_16_17 => ?_)
    · have hq18 : 342 = ik := by omega
      subst hq18
      refine lv_aload_n hx hb dX5_save_40 rfl (lv_at hl 0 rfl) ?_
      refine lv_dup hx hb dX5_save_41 rfl ?_
      refine va_get (D := D) (ci := 5) (v := .int (nI ns)) (C := RX5) (T := TX5) (N := 12) hx hb hts iX5_save_5 hown hK hP 0 rfl rfl 1 (by decide) (hts (.fieldLink RX5 29 "HallSightsModel" "states" "I") (List.mem_of_getElem? (i := 1) rfl)) (fun _ h9 => h9) rfl dX5_save_42 ?_
      refine lv_iconst (v := nI 1) hx hb dX5_save_45 (by decide) ?_
      refine kx_isub hx hb (by omega) dX5_save_46 ?_
      refine va_put (D := D) (ci := 5) (v := .int (nI (ns - 1))) (ty := .int) (C := RX5) (T := TX5) (N := 12) hx hb hts iX5_save_5 tyX5 tyX5_ok nmX5 hown hK hP hD hS 0 rfl rfl 1 (by decide) (hts (.fieldLink RX5 29 "HallSightsModel" "states" "I") (List.mem_of_getElem? (i := 1) rfl)) (fun _ h9 => h9) rfl (by decide +kernel) rfl rfl (Nat.le_of_ble_eq_true rfl) dX5_save_47 (fun H locs hP hD hS => ?_)
      have hP : va_P D vwCl (MW a cI z (nI (ns - 1)) (shH zh 342) (nI nl) tx th pa rd nu pt wy za) H := hP
      have hD : va_D (kA w0) (MW a cI z (nI (ns - 1)) (shH zh 342) (nI nl) tx th pa rd nu pt wy za) := hD
      refine lv_iconst (v := nI 0) hx hb dX5_save_50 (by decide) ?_
      refine lv_istore_n (lv' := [(1, .int (nI 0)), (0, .ref (a 0))]) hx hb dX5_save_51 rfl hl (by decide) rfl (fun ls hl => ?_)
      have ec_zh_19 : ((shH zh 342) : ZZ) = (cpH z (shH zh 342) (ns - 1) 0) := by funext jj; simp only [upd, cpH]; (repeat' split) <;> first | rfl | omega | (exfalso; omega) | (congr 1; omega)
      have ew_20 : (MW a cI z (nI (ns - 1)) (shH zh 342) (nI nl) tx th pa rd nu pt wy za : va_W) = (MW a cI z (nI (ns - 1)) (cpH z (shH zh 342) (ns - 1) 0) (nI nl) tx th pa rd nu pt wy za) := mw_c rfl rfl ec_zh_19 rfl rfl rfl rfl rfl rfl rfl rfl rfl
      rw [ew_20] at hP hD
      refine kx_upW (fun k H locs ls => (va_P D vwCl (MW a cI z (nI (ns - 1)) (cpH z (shH zh 342) (ns - 1) k) (nI nl) tx th pa rd nu pt wy za) H ∧ va_D (kA w0) (MW a cI z (nI (ns - 1)) (cpH z (shH zh 342) (ns - 1) k) (nI nl) tx th pa rd nu pt wy za) ∧ va_S (kA w0) s.heap H locs) ∧ lv_has ls 2 [(0, .ref (a 0)), (1, .int (nI k))]) (0) (57) (by omega) _ _ ls ⟨⟨hP, hD, hS⟩, (lv_sub hl [1, 0] rfl)⟩ ?_
      clear hP hD hS
      intro ik H locs ls hikl hikh hp ih52
      obtain ⟨⟨hP, hD, hS⟩, hp⟩ := hp
      have hl := hp
      refine lv_iload_n hx hb dX5_save_52 rfl (lv_at hl 1 rfl) ?_
      refine lv_bipush (v := nI 57) hx hb dX5_save_53 (by decide) ?_
      refine kx_icmp_ge (tgt := 84) hx hb (by omega) (by omega) dX5_save_55 (by decide) (fun c_55_21 => ?_) (fun c_55_22 => ?_)
      · have hq23 : 57 = ik := by omega
        subst hq23
        refine lv_aload_n hx hb dX5_save_84 rfl (lv_at hl 0 rfl) ?_
        refine lv_dup hx hb dX5_save_85 rfl ?_
        refine va_get (D := D) (ci := 5) (v := .int (nI (ns - 1))) (C := RX5) (T := TX5) (N := 12) hx hb hts iX5_save_5 hown hK hP 0 rfl rfl 1 (by decide) (hts (.fieldLink RX5 29 "HallSightsModel" "states" "I") (List.mem_of_getElem? (i := 1) rfl)) (fun _ h9 => h9) rfl dX5_save_86 ?_
        refine lv_iconst (v := nI 1) hx hb dX5_save_89 (by decide) ?_
        refine kx_iadd hx hb dX5_save_90 ?_
        refine va_put (D := D) (ci := 5) (v := .int (nI ((ns - 1) + 1))) (ty := .int) (C := RX5) (T := TX5) (N := 12) hx hb hts iX5_save_5 tyX5 tyX5_ok nmX5 hown hK hP hD hS 0 rfl rfl 1 (by decide) (hts (.fieldLink RX5 29 "HallSightsModel" "states" "I") (List.mem_of_getElem? (i := 1) rfl)) (fun _ h9 => h9) rfl (by decide +kernel) rfl rfl (Nat.le_of_ble_eq_true rfl) dX5_save_91 (fun H locs hP hD hS => ?_)
        have hP : va_P D vwCl (MW a cI z (nI ((ns - 1) + 1)) (cpH z (shH zh 342) (ns - 1) 57) (nI nl) tx th pa rd nu pt wy za) H := hP
        have hD : va_D (kA w0) (MW a cI z (nI ((ns - 1) + 1)) (cpH z (shH zh 342) (ns - 1) 57) (nI nl) tx th pa rd nu pt wy za) := hD
        have ec_st_24 : ((nI ((ns - 1) + 1)) : Int32) = (nI (saveN ns)) := by first | rfl | omega | (simp [saveH, saveN, Int32.not_lt, Int32.not_le, c_6_1, c_16_16, Nat.not_lt.mpr c_16_16, c_55_21, Nat.not_lt.mpr c_55_21]; done) | (simp [saveH, saveN, Int32.not_lt, Int32.not_le, c_6_1, c_16_16, Nat.not_lt.mpr c_16_16, c_55_21, Nat.not_lt.mpr c_55_21]; omega) | (revert c_6_1 c_16_16 c_55_21; simp +contextual [saveH, saveN, Int32.not_lt, Int32.not_le]; done) | (revert c_6_1 c_16_16 c_55_21; simp +contextual [saveH, saveN, Int32.not_lt, Int32.not_le]; omega)
        have ec_zh_25 : ((cpH z (shH zh 342) (ns - 1) 57) : ZZ) = (saveH z zh ns) := by first | rfl | omega | (simp [saveH, saveN, Int32.not_lt, Int32.not_le, c_6_1, c_16_16, Nat.not_lt.mpr c_16_16, c_55_21, Nat.not_lt.mpr c_55_21]; done) | (simp [saveH, saveN, Int32.not_lt, Int32.not_le, c_6_1, c_16_16, Nat.not_lt.mpr c_16_16, c_55_21, Nat.not_lt.mpr c_55_21]; omega) | (revert c_6_1 c_16_16 c_55_21; simp +contextual [saveH, saveN, Int32.not_lt, Int32.not_le]; done) | (revert c_6_1 c_16_16 c_55_21; simp +contextual [saveH, saveN, Int32.not_lt, Int32.not_le]; omega)
        have ew_26 : (MW a cI z (nI ((ns - 1) + 1)) (cpH z (shH zh 342) (ns - 1) 57) (nI nl) tx th pa rd nu pt wy za : va_W) = (MW a cI z (nI (saveN ns)) (saveH z zh ns) (nI nl) tx th pa rd nu pt wy za) := mw_c rfl ec_st_24 ec_zh_25 rfl rfl rfl rfl rfl rfl rfl rfl rfl
        rw [ew_26] at hP hD
        subst hw0
        exact kq_vret hx hb hrt hlocks hP hD hS dX5_save_94
      · refine lv_aload_n hx hb dX5_save_58 rfl (lv_at hl 0 rfl) ?_
        refine va_get (D := D) (ci := 5) (v := .ref (a 2)) (C := RX5) (T := TX5) (N := 12) hx hb hts iX5_save_5 hown hK hP 0 rfl rfl 2 (by decide) (hts (.fieldLink RX5 13 "HallSightsModel" "history" "[I") (List.mem_of_getElem? (i := 2) rfl)) (fun _ h9 => h9) rfl dX5_save_59 ?_
        refine lv_bipush (v := nI 57) hx hb dX5_save_62 (by decide) ?_
        refine lv_aload_n hx hb dX5_save_64 rfl (lv_at hl 0 rfl) ?_
        refine va_get (D := D) (ci := 5) (v := .int (nI (ns - 1))) (C := RX5) (T := TX5) (N := 12) hx hb hts iX5_save_5 hown hK hP 0 rfl rfl 1 (by decide) (hts (.fieldLink RX5 29 "HallSightsModel" "states" "I") (List.mem_of_getElem? (i := 1) rfl)) (fun _ h9 => h9) rfl dX5_save_65 ?_
        refine kx_imul hx hb dX5_save_68 ?_
        refine lv_iload_n hx hb dX5_save_69 rfl (lv_at hl 1 rfl) ?_
        refine kx_iadd hx hb dX5_save_70 ?_
        refine lv_aload_n hx hb dX5_save_71 rfl (lv_at hl 0 rfl) ?_
        refine va_get (D := D) (ci := 5) (v := .ref (a 1)) (C := RX5) (T := TX5) (N := 12) hx hb hts iX5_save_5 hown hK hP 0 rfl rfl 0 (by decide) (hts (.fieldLink RX5 7 "HallSightsModel" "z" "[I") (List.mem_of_getElem? (i := 3) rfl)) (fun _ h9 => h9) rfl dX5_save_72 ?_
        refine lv_iload_n hx hb dX5_save_75 rfl (lv_at hl 1 rfl) ?_
        refine kx_iald hx hb hK hP 1 0 rfl rfl (by omega) (by decide) dX5_save_76 ?_
        refine kx_iast hx hb hK hP hD hS 2 0 rfl rfl (by omega) (by decide) dX5_save_77 (fun H locs hP hD hS => ?_)
        have hP : va_P D vwCl (MW a cI z (nI (ns - 1)) (upd (cpH z (shH zh 342) (ns - 1) ik) ((57 * (ns - 1)) + ik) (z ik)) (nI nl) tx th pa rd nu pt wy za) H := hP
        have hD : va_D (kA w0) (MW a cI z (nI (ns - 1)) (upd (cpH z (shH zh 342) (ns - 1) ik) ((57 * (ns - 1)) + ik) (z ik)) (nI nl) tx th pa rd nu pt wy za) := hD
        refine lv_iinc (v := nI (ik + 1)) (lv' := [(1, .int (nI (ik + 1))), (0, .ref (a 0))]) hx hb dX5_save_78 hl (k := 1) rfl (kx_inc 1) (by decide) rfl (fun ls hl => ?_)
        refine lv_goto (tgt := 52) hx hb dX5_save_81 (by decide) ?_
        have e52_27 : (ik + 1 : Nat) = ((ik + 1)) := by first | rfl | omega | (simp [saveH, saveN, Int32.not_lt, Int32.not_le, c_6_1, c_16_16, Nat.not_lt.mpr c_16_16, c_55_22, Nat.not_le.mpr c_55_22]; done) | (simp [saveH, saveN, Int32.not_lt, Int32.not_le, c_6_1, c_16_16, Nat.not_lt.mpr c_16_16, c_55_22, Nat.not_le.mpr c_55_22]; omega) | (revert c_6_1 c_16_16 c_55_22; simp +contextual [saveH, saveN, Int32.not_lt, Int32.not_le]; done) | (revert c_6_1 c_16_16 c_55_22; simp +contextual [saveH, saveN, Int32.not_lt, Int32.not_le]; omega)
        have hl52_28 : lv_has ls 2 [(0, .ref (a 0)), (1, .int (nI (ik + 1)))] := lv_eqv (l1 := [(0, .ref (a 0)), (1, .int (nI (ik + 1)))]) (lv_sub hl [1, 0] rfl) (lv_ce rfl (lv_ce (congrArg (fun x => Value.int (nI x)) e52_27) rfl))
        have ec_zh_29 : ((upd (cpH z (shH zh 342) (ns - 1) ik) ((57 * (ns - 1)) + ik) (z ik)) : ZZ) = (cpH z (shH zh 342) (ns - 1) (ik + 1)) := by funext jj; simp only [upd, cpH]; (repeat' split) <;> first | rfl | omega | (exfalso; omega) | (congr 1; omega)
        have ew_30 : (MW a cI z (nI (ns - 1)) (upd (cpH z (shH zh 342) (ns - 1) ik) ((57 * (ns - 1)) + ik) (z ik)) (nI nl) tx th pa rd nu pt wy za : va_W) = (MW a cI z (nI (ns - 1)) (cpH z (shH zh 342) (ns - 1) (ik + 1)) (nI nl) tx th pa rd nu pt wy za) := mw_c rfl rfl ec_zh_29 rfl rfl rfl rfl rfl rfl rfl rfl rfl
        rw [ew_30] at hP hD
        exact ih52 _ _ _ (by omega) ⟨⟨hP, hD, hS⟩, hl52_28⟩
    · refine lv_aload_n hx hb dX5_save_19 rfl (lv_at hl 0 rfl) ?_
      refine va_get (D := D) (ci := 5) (v := .ref (a 2)) (C := RX5) (T := TX5) (N := 12) hx hb hts iX5_save_5 hown hK hP 0 rfl rfl 2 (by decide) (hts (.fieldLink RX5 13 "HallSightsModel" "history" "[I") (List.mem_of_getElem? (i := 2) rfl)) (fun _ h9 => h9) rfl dX5_save_20 ?_
      refine lv_iload_n hx hb dX5_save_23 rfl (lv_at hl 1 rfl) ?_
      refine lv_bipush (v := nI 57) hx hb dX5_save_24 (by decide) ?_
      refine kx_isub hx hb (by omega) dX5_save_26 ?_
      refine lv_aload_n hx hb dX5_save_27 rfl (lv_at hl 0 rfl) ?_
      refine va_get (D := D) (ci := 5) (v := .ref (a 2)) (C := RX5) (T := TX5) (N := 12) hx hb hts iX5_save_5 hown hK hP 0 rfl rfl 2 (by decide) (hts (.fieldLink RX5 13 "HallSightsModel" "history" "[I") (List.mem_of_getElem? (i := 2) rfl)) (fun _ h9 => h9) rfl dX5_save_28 ?_
      refine lv_iload_n hx hb dX5_save_31 rfl (lv_at hl 1 rfl) ?_
      refine kx_iald hx hb hK hP 2 0 rfl rfl (by omega) (by decide) dX5_save_32 ?_
      refine kx_iast hx hb hK hP hD hS 2 0 rfl rfl (by omega) (by decide) dX5_save_33 (fun H locs hP hD hS => ?_)
      have hP : va_P D vwCl (MW a cI z (nI ns) (upd (shH zh ik) (ik - 57) ((shH zh ik) ik)) (nI nl) tx th pa rd nu pt wy za) H := hP
      have hD : va_D (kA w0) (MW a cI z (nI ns) (upd (shH zh ik) (ik - 57) ((shH zh ik) ik)) (nI nl) tx th pa rd nu pt wy za) := hD
      refine lv_iinc (v := nI (ik + 1)) (lv' := [(1, .int (nI (ik + 1))), (0, .ref (a 0))]) hx hb dX5_save_34 hl (k := 1) rfl (kx_inc 1) (by decide) rfl (fun ls hl => ?_)
      refine lv_goto (tgt := 12) hx hb dX5_save_37 (by decide) ?_
      have e12_31 : (ik + 1 : Nat) = ((ik + 1)) := by first | rfl | omega | (simp [saveH, saveN, Int32.not_lt, Int32.not_le, c_6_1, c_16_17, Nat.not_le.mpr c_16_17]; done) | (simp [saveH, saveN, Int32.not_lt, Int32.not_le, c_6_1, c_16_17, Nat.not_le.mpr c_16_17]; omega) | (revert c_6_1 c_16_17; simp +contextual [saveH, saveN, Int32.not_lt, Int32.not_le]; done) | (revert c_6_1 c_16_17; simp +contextual [saveH, saveN, Int32.not_lt, Int32.not_le]; omega)
      have hl12_32 : lv_has ls 2 [(0, .ref (a 0)), (1, .int (nI (ik + 1)))] := lv_eqv (l1 := [(0, .ref (a 0)), (1, .int (nI (ik + 1)))]) (lv_sub hl [1, 0] rfl) (lv_ce rfl (lv_ce (congrArg (fun x => Value.int (nI x)) e12_31) rfl))
      have ec_zh_33 : ((upd (shH zh ik) (ik - 57) ((shH zh ik) ik)) : ZZ) = (shH zh (ik + 1)) := by funext jj; simp only [upd, shH]; (repeat' split) <;> first | rfl | omega | (exfalso; omega) | (congr 1; omega)
      have ew_34 : (MW a cI z (nI ns) (upd (shH zh ik) (ik - 57) ((shH zh ik) ik)) (nI nl) tx th pa rd nu pt wy za : va_W) = (MW a cI z (nI ns) (shH zh (ik + 1)) (nI nl) tx th pa rd nu pt wy za) := mw_c rfl rfl ec_zh_33 rfl rfl rfl rfl rfl rfl rfl rfl rfl
      rw [ew_34] at hP hD
      exact ih12 _ _ _ (by omega) ⟨⟨hP, hD, hS⟩, hl12_32⟩
set_option maxHeartbeats 4000000 in
set_option maxRecDepth 100000 in
theorem c_X5_blockerOf (l : Launch) (D : va_G) (cI cC cH cL : ClassId) (a : Nat → Nat) (z zh tx pa wy : ZZ) (st le th rd nu pt : Int32) (za : Int64) (r0 : Nat) (s0 : Nat) (hw : WF z) (hr : r0 < nR z) : Met l yX5_blockerOf wsX5_blockerOf ({ frames := 3, cells := 0, slots := 0, locals := 71 }) (kp [.ref (a 0), .int (nI r0), .int (nI s0)] D (MW a cI z st zh le tx th pa rd nu pt wy za) (kT cI cC cH cL)) (kr (.returned (some (.int (blockerI z r0 s0))))) 0 0 (fun _ => False) := by
  refine Met.ofW (cc := cX5_blockerOf) (maxL := 6) (ret := (some .int)) (by decide) rfl ?_
  intro p e s m args below meth c s₁ B hml hv
  obtain ⟨rfl, hP, hK⟩ := hv
  have hx := B.exec
  have hb := B.bytes
  have hrt := B.returns
  have hts := atoms_spec (ws := wsX5_blockerOf) B.pre
  have hown : s.vm.findClass RX5 = some m.cls := findClass_of_methodNamed B.named
  have hlocks := B.notSynchronized
  have hl := lv_entry ([.ref (a 0), .int (nI r0), .int (nI s0)]) (n := 6) (Nat.le_of_ble_eq_true rfl)
  rw [lg_entry_eq]
  generalize (lg_sl ([.ref (a 0), .int (nI r0), .int (nI s0)]) ++ List.replicate (6 - (lg_sl ([.ref (a 0), .int (nI r0), .int (nI s0)])).length) Slot.unset).toArray = ls at hl ⊢
  have hl : lv_has ls 6 [(0, .ref (a 0)), (1, .int (nI r0)), (2, .int (nI s0))] := hl
  have hR10 := wf_R10 hw
  have hC4 := wf_C4 hw
  refine lv_iconst (v := (-1)) hx hb dX5_blockerOf_0 (by decide) ?_
  refine lv_istore_n (lv' := [(3, .int (-1)), (0, .ref (a 0)), (1, .int (nI r0)), (2, .int (nI s0))]) hx hb dX5_blockerOf_1 rfl hl (by decide) rfl (fun ls hl => ?_)
  refine lv_iconst (v := nI 0) hx hb dX5_blockerOf_2 (by decide) ?_
  refine lv_istore (lv' := [(4, .int (nI 0)), (3, .int (-1)), (0, .ref (a 0)), (1, .int (nI r0)), (2, .int (nI s0))]) hx hb dX5_blockerOf_3 hl (by decide) rfl (fun ls hl => ?_)
  have e5_0 : ((-1) : Int32) = (itN 0 (bkR z r0 s0) (-1)) := by first | rfl | omega | (simp [blockerI, bkR, bkS, itN_s, Int32.not_lt, Int32.not_le]; done) | (simp [blockerI, bkR, bkS, itN_s, Int32.not_lt, Int32.not_le]; omega)
  have hl5_1 : lv_has ls 6 [(0, .ref (a 0)), (1, .int (nI r0)), (2, .int (nI s0)), (3, .int (itN 0 (bkR z r0 s0) (-1))), (4, .int (nI 0))] := lv_eqv (l1 := [(0, .ref (a 0)), (1, .int (nI r0)), (2, .int (nI s0)), (3, .int (-1)), (4, .int (nI 0))]) (lv_sub hl [2, 3, 4, 1, 0] rfl) (lv_ce rfl (lv_ce rfl (lv_ce rfl (lv_ce (congrArg Value.int e5_0) (lv_ce rfl rfl)))))
  refine kx_up (fun k ls => lv_has ls 6 [(0, .ref (a 0)), (1, .int (nI r0)), (2, .int (nI s0)), (3, .int (itN k (bkR z r0 s0) (-1))), (4, .int (nI k))]) (0) (r0) (by omega) ls (hl5_1) ?_
  intro ia ls hial hiah hp ih5
  have hl := hp
  refine lv_iload hx hb dX5_blockerOf_5 (lv_at hl 4 rfl) ?_
  refine lv_iload_n hx hb dX5_blockerOf_7 rfl (lv_at hl 1 rfl) ?_
  refine kx_icmp_ge (tgt := 76) hx hb (by omega) (by omega) dX5_blockerOf_8 (by decide) (fun c_8_2 => ?_) (fun c_8_3 => ?_)
  · have hq4 : r0 = ia := by omega
    subst hq4
    refine lv_iload_n hx hb dX5_blockerOf_76 rfl (lv_at hl 3 rfl) ?_
    have e_5 : (itN r0 (bkR z r0 s0) (-1) : Int32) = (blockerI z r0 s0) := by first | rfl | omega | (simp [blockerI, bkR, bkS, itN_s, Int32.not_lt, Int32.not_le, c_8_2, Nat.not_lt.mpr c_8_2]; done) | (simp [blockerI, bkR, bkS, itN_s, Int32.not_lt, Int32.not_le, c_8_2, Nat.not_lt.mpr c_8_2]; omega) | (revert c_8_2; simp +contextual [blockerI, bkR, bkS, itN_s, Int32.not_lt, Int32.not_le]; done) | (revert c_8_2; simp +contextual [blockerI, bkR, bkS, itN_s, Int32.not_lt, Int32.not_le]; omega)
    exact kr_iret hx hb hrt hlocks e_5 rfl dX5_blockerOf_77
  · refine lv_aload_n hx hb dX5_blockerOf_11 rfl (lv_at hl 0 rfl) ?_
    refine lv_iload hx hb dX5_blockerOf_12 (lv_at hl 4 rfl) ?_
    refine lv_iconst (v := nI 2) hx hb dX5_blockerOf_14 (by decide) ?_
    refine kr_V (As := [.int (nI ia), .int (nI 2)]) (rest := []) (C := RX5) (own := RX5) ⟨hx, hb, hml, hown, hts⟩ (c_X5_of l D cI cC cH cL a z zh tx pa wy st le th rd nu pt za ia 2 (by first | assumption | omega)) (cwV 2 hts gX5_blockerOf_X5_of rfl rfl rfl k_X5_of ⟨Nat.le_of_ble_eq_true rfl, Nat.le_of_ble_eq_true rfl⟩) hP hK (va_recv (q := (RX5, TX5, 12)) hK hP (ci := 5) (q0 := 0) rfl rfl) rfl hl.1 rfl (Nat.le_of_ble_eq_true rfl) dX5_blockerOf_15 ⟨Nat.le_of_ble_eq_true rfl, Nat.le_of_ble_eq_true rfl⟩ ?_
    refine kx_top (wf_S hw (show (ia) < nR z by omega)) ?_
    have hS12_6 := wf_S12 hw (show (ia) < nR z by omega)
    refine lv_iconst (v := nI 1) hx hb dX5_blockerOf_18 (by decide) ?_
    refine lv_isub hx hb dX5_blockerOf_19 ?_
    refine lv_istore (lv' := [(5, .int ((nI (nS z (ia))) - (nI 1))), (0, .ref (a 0)), (1, .int (nI r0)), (2, .int (nI s0)), (3, .int (itN ia (bkR z r0 s0) (-1))), (4, .int (nI ia))]) hx hb dX5_blockerOf_20 hl (by decide) rfl (fun ls hl => ?_)
    have e22_7 : (itN ia (bkR z r0 s0) (-1) : Int32) = (itN (nS z ia - (nS z ia)) (fun j => bkS z r0 s0 ia (nS z ia - 1 - j)) (itN ia (bkR z r0 s0) (-1))) := by first | (rw [Nat.sub_self]; rfl) | (rw [show nS z ia - (ik - 1) = (nS z ia - ik) + 1 by omega, itN_s, show nS z ia - 1 - (nS z ia - ik) = ik - 1 by omega]; simp [bkS, c_8_3, Nat.not_le.mpr c_8_3])
    have e22_8 : (((nI (nS z (ia))) - (nI 1)) : Int32) = ((nI (nS z ia) - nI 1)) := by first | rfl | omega | (simp [blockerI, bkR, bkS, itN_s, Int32.not_lt, Int32.not_le, c_8_3, Nat.not_le.mpr c_8_3]; done) | (simp [blockerI, bkR, bkS, itN_s, Int32.not_lt, Int32.not_le, c_8_3, Nat.not_le.mpr c_8_3]; omega) | (revert c_8_3; simp +contextual [blockerI, bkR, bkS, itN_s, Int32.not_lt, Int32.not_le]; done) | (revert c_8_3; simp +contextual [blockerI, bkR, bkS, itN_s, Int32.not_lt, Int32.not_le]; omega)
    have hl22_9 : lv_has ls 6 [(0, .ref (a 0)), (1, .int (nI r0)), (2, .int (nI s0)), (4, .int (nI ia)), (3, .int (itN (nS z ia - (nS z ia)) (fun j => bkS z r0 s0 ia (nS z ia - 1 - j)) (itN ia (bkR z r0 s0) (-1)))), (5, .int (nI (nS z ia) - nI 1))] := lv_eqv (l1 := [(0, .ref (a 0)), (1, .int (nI r0)), (2, .int (nI s0)), (4, .int (nI ia)), (3, .int (itN ia (bkR z r0 s0) (-1))), (5, .int ((nI (nS z (ia))) - (nI 1)))]) (lv_sub hl [1, 2, 3, 5, 4, 0] rfl) (lv_ce rfl (lv_ce rfl (lv_ce rfl (lv_ce rfl (lv_ce (congrArg Value.int e22_7) (lv_ce (congrArg Value.int e22_8) rfl))))))
    refine kx_dn (fun k ls => lv_has ls 6 [(0, .ref (a 0)), (1, .int (nI r0)), (2, .int (nI s0)), (4, .int (nI ia)), (3, .int (itN (nS z ia - k) (fun j => bkS z r0 s0 ia (nS z ia - 1 - j)) (itN ia (bkR z r0 s0) (-1)))), (5, .int (nI k - nI 1))]) (0) (nS z ia) (by omega) ls (hl22_9) ?_
    intro ik ls hikl hikh hp ih22
    have hl := hp
    have hS22 := wf_S12 hw (show ia < nR z by omega)
    rcases Nat.eq_zero_or_pos ik with q0 | q0
    · subst q0
      have hl : lv_has ls 6 [(0, .ref (a 0)), (1, .int (nI r0)), (2, .int (nI s0)), (4, .int (nI ia)), (3, .int (itN (nS z ia - 0) (fun j => bkS z r0 s0 ia (nS z ia - 1 - j)) (itN ia (bkR z r0 s0) (-1)))), (5, .int (-1))] := lv_eqv (l1 := [(0, .ref (a 0)), (1, .int (nI r0)), (2, .int (nI s0)), (4, .int (nI ia)), (3, .int (itN (nS z ia - 0) (fun j => bkS z r0 s0 ia (nS z ia - 1 - j)) (itN ia (bkR z r0 s0) (-1)))), (5, .int (nI 0 - nI 1))]) hl (lv_ce rfl (lv_ce rfl (lv_ce rfl (lv_ce rfl (lv_ce rfl (lv_ce (congrArg Value.int (show nI 0 - nI 1 = (-1 : Int32) from by decide)) rfl))))))
      refine lv_iload hx hb dX5_blockerOf_22 (lv_at hl 5 rfl) ?_
      refine lv_if_lt (tgt := 70) hx hb dX5_blockerOf_24 (by decide) (fun c_24_10 => ?_) (fun c => absurd c (by decide))
      refine lv_iinc (v := nI (ia + 1)) (lv' := [(4, .int (nI (ia + 1))), (0, .ref (a 0)), (1, .int (nI r0)), (2, .int (nI s0)), (3, .int (itN (nS z ia - 0) (fun j => bkS z r0 s0 ia (nS z ia - 1 - j)) (itN ia (bkR z r0 s0) (-1)))), (5, .int (-1))]) hx hb dX5_blockerOf_70 hl (k := 3) rfl (kx_inc 1) (by decide) rfl (fun ls hl => ?_)
      refine lv_goto (tgt := 5) hx hb dX5_blockerOf_73 (by decide) ?_
      have e5_11 : (itN (nS z ia - 0) (fun j => bkS z r0 s0 ia (nS z ia - 1 - j)) (itN ia (bkR z r0 s0) (-1)) : Int32) = (itN (ia + 1) (bkR z r0 s0) (-1)) := by first | rfl | omega | (simp [blockerI, bkR, bkS, itN_s, Int32.not_lt, Int32.not_le, c_8_3, Nat.not_le.mpr c_8_3]; done) | (simp [blockerI, bkR, bkS, itN_s, Int32.not_lt, Int32.not_le, c_8_3, Nat.not_le.mpr c_8_3]; omega) | (revert c_8_3; simp +contextual [blockerI, bkR, bkS, itN_s, Int32.not_lt, Int32.not_le]; done) | (revert c_8_3; simp +contextual [blockerI, bkR, bkS, itN_s, Int32.not_lt, Int32.not_le]; omega)
      have e5_12 : (ia + 1 : Nat) = ((ia + 1)) := by first | rfl | omega | (simp [blockerI, bkR, bkS, itN_s, Int32.not_lt, Int32.not_le, c_8_3, Nat.not_le.mpr c_8_3]; done) | (simp [blockerI, bkR, bkS, itN_s, Int32.not_lt, Int32.not_le, c_8_3, Nat.not_le.mpr c_8_3]; omega) | (revert c_8_3; simp +contextual [blockerI, bkR, bkS, itN_s, Int32.not_lt, Int32.not_le]; done) | (revert c_8_3; simp +contextual [blockerI, bkR, bkS, itN_s, Int32.not_lt, Int32.not_le]; omega)
      have hl5_13 : lv_has ls 6 [(0, .ref (a 0)), (1, .int (nI r0)), (2, .int (nI s0)), (3, .int (itN (ia + 1) (bkR z r0 s0) (-1))), (4, .int (nI (ia + 1)))] := lv_eqv (l1 := [(0, .ref (a 0)), (1, .int (nI r0)), (2, .int (nI s0)), (3, .int (itN (nS z ia - 0) (fun j => bkS z r0 s0 ia (nS z ia - 1 - j)) (itN ia (bkR z r0 s0) (-1)))), (4, .int (nI (ia + 1)))]) (lv_sub hl [1, 2, 3, 4, 0] rfl) (lv_ce rfl (lv_ce rfl (lv_ce rfl (lv_ce (congrArg Value.int e5_11) (lv_ce (congrArg (fun x => Value.int (nI x)) e5_12) rfl)))))
      exact ih5 _ (by omega) (hl5_13)
    · have hl : lv_has ls 6 [(0, .ref (a 0)), (1, .int (nI r0)), (2, .int (nI s0)), (4, .int (nI ia)), (3, .int (itN (nS z ia - ik) (fun j => bkS z r0 s0 ia (nS z ia - 1 - j)) (itN ia (bkR z r0 s0) (-1)))), (5, .int (nI (ik - 1)))] := lv_eqv (l1 := [(0, .ref (a 0)), (1, .int (nI r0)), (2, .int (nI s0)), (4, .int (nI ia)), (3, .int (itN (nS z ia - ik) (fun j => bkS z r0 s0 ia (nS z ia - 1 - j)) (itN ia (bkR z r0 s0) (-1)))), (5, .int (nI ik - nI 1))]) hl (lv_ce rfl (lv_ce rfl (lv_ce rfl (lv_ce rfl (lv_ce rfl (lv_ce (congrArg Value.int (kx_pm1 q0)) rfl))))))
      refine lv_iload hx hb dX5_blockerOf_22 (lv_at hl 5 rfl) ?_
      refine kx_if_lt (tgt := 70) hx hb (by omega) dX5_blockerOf_24 (by decide) ?_
      refine lv_aload_n hx hb dX5_blockerOf_27 rfl (lv_at hl 0 rfl) ?_
      refine lv_iload hx hb dX5_blockerOf_28 (lv_at hl 3 rfl) ?_
      refine lv_iload hx hb dX5_blockerOf_30 (lv_at hl 5 rfl) ?_
      refine kr_V (As := [.int (nI ia), .int (nI (ik - 1))]) (rest := []) (C := RX5) (own := RX5) ⟨hx, hb, hml, hown, hts⟩ (c_X5_isTaken l D cI cC cH cL a z zh tx pa wy st le th rd nu pt za ia (ik - 1) (by first | assumption | omega)) (cwV 2 hts gX5_blockerOf_X5_isTaken rfl rfl rfl k_X5_isTaken ⟨Nat.le_of_ble_eq_true rfl, Nat.le_of_ble_eq_true rfl⟩) hP hK (va_recv (q := (RX5, TX5, 12)) hK hP (ci := 5) (q0 := 0) rfl rfl) rfl hl.1 rfl (Nat.le_of_ble_eq_true rfl) dX5_blockerOf_32 ⟨Nat.le_of_ble_eq_true rfl, Nat.le_of_ble_eq_true rfl⟩ ?_
      refine kx_if_eqb (tgt := 62) hx hb dX5_blockerOf_35 (by decide) (fun c_35_14 => ?_) (fun c_35_15 => ?_)
      · refine lv_iload_n hx hb dX5_blockerOf_62 rfl (lv_at hl 4 rfl) ?_
        refine lv_istore_n (lv' := [(3, .int (itN (nS z ia - ik) (fun j => bkS z r0 s0 ia (nS z ia - 1 - j)) (itN ia (bkR z r0 s0) (-1)))), (0, .ref (a 0)), (1, .int (nI r0)), (2, .int (nI s0)), (4, .int (nI ia)), (5, .int (nI (ik - 1)))]) hx hb dX5_blockerOf_63 rfl hl (by decide) rfl (fun ls hl => ?_)
        refine lv_iinc (v := (nI (ik - 1) - nI 1)) (lv' := [(5, .int (nI (ik - 1) - nI 1)), (3, .int (itN (nS z ia - ik) (fun j => bkS z r0 s0 ia (nS z ia - 1 - j)) (itN ia (bkR z r0 s0) (-1)))), (0, .ref (a 0)), (1, .int (nI r0)), (2, .int (nI s0)), (4, .int (nI ia))]) hx hb dX5_blockerOf_64 hl (k := 5) rfl (kx_subm1 _) (by decide) rfl (fun ls hl => ?_)
        refine lv_goto (tgt := 22) hx hb dX5_blockerOf_67 (by decide) ?_
        have e22_16 : (itN (nS z ia - ik) (fun j => bkS z r0 s0 ia (nS z ia - 1 - j)) (itN ia (bkR z r0 s0) (-1)) : Int32) = (itN (nS z ia - (ik - 1)) (fun j => bkS z r0 s0 ia (nS z ia - 1 - j)) (itN ia (bkR z r0 s0) (-1))) := by first | (rw [Nat.sub_self]; rfl) | (rw [show nS z ia - (ik - 1) = (nS z ia - ik) + 1 by omega, itN_s, show nS z ia - 1 - (nS z ia - ik) = ik - 1 by omega]; simp [bkS, c_8_3, Nat.not_le.mpr c_8_3, c_35_14])
        have hl22_17 : lv_has ls 6 [(0, .ref (a 0)), (1, .int (nI r0)), (2, .int (nI s0)), (4, .int (nI ia)), (3, .int (itN (nS z ia - (ik - 1)) (fun j => bkS z r0 s0 ia (nS z ia - 1 - j)) (itN ia (bkR z r0 s0) (-1)))), (5, .int (nI (ik - 1) - nI 1))] := lv_eqv (l1 := [(0, .ref (a 0)), (1, .int (nI r0)), (2, .int (nI s0)), (4, .int (nI ia)), (3, .int (itN (nS z ia - ik) (fun j => bkS z r0 s0 ia (nS z ia - 1 - j)) (itN ia (bkR z r0 s0) (-1)))), (5, .int (nI (ik - 1) - nI 1))]) (lv_sub hl [2, 3, 4, 5, 1, 0] rfl) (lv_ce rfl (lv_ce rfl (lv_ce rfl (lv_ce rfl (lv_ce (congrArg Value.int e22_16) (lv_ce rfl rfl))))))
        exact ih22 _ (by omega) (hl22_17)
      · refine lv_aload_n hx hb dX5_blockerOf_38 rfl (lv_at hl 0 rfl) ?_
        refine lv_iload hx hb dX5_blockerOf_39 (lv_at hl 3 rfl) ?_
        refine lv_iload hx hb dX5_blockerOf_41 (lv_at hl 5 rfl) ?_
        refine lv_iload_n hx hb dX5_blockerOf_43 rfl (lv_at hl 1 rfl) ?_
        refine lv_iload_n hx hb dX5_blockerOf_44 rfl (lv_at hl 2 rfl) ?_
        refine kr_V (As := [.int (nI ia), .int (nI (ik - 1)), .int (nI r0), .int (nI s0)]) (rest := []) (C := RX5) (own := RX5) ⟨hx, hb, hml, hown, hts⟩ (c_X5_blocks l D cI cC cH cL a z zh tx pa wy st le th rd nu pt za ia (ik - 1) r0 s0 (by first | assumption | omega) (by first | assumption | omega) (by first | assumption | omega)) (cwV 4 hts gX5_blockerOf_X5_blocks rfl rfl rfl k_X5_blocks ⟨Nat.le_of_ble_eq_true rfl, Nat.le_of_ble_eq_true rfl⟩) hP hK (va_recv (q := (RX5, TX5, 12)) hK hP (ci := 5) (q0 := 0) rfl rfl) rfl hl.1 rfl (Nat.le_of_ble_eq_true rfl) dX5_blockerOf_45 ⟨Nat.le_of_ble_eq_true rfl, Nat.le_of_ble_eq_true rfl⟩ ?_
        refine kx_if_eqb (tgt := 62) hx hb dX5_blockerOf_48 (by decide) (fun c_48_18 => ?_) (fun c_48_19 => ?_)
        · refine lv_iload_n hx hb dX5_blockerOf_62 rfl (lv_at hl 4 rfl) ?_
          refine lv_istore_n (lv' := [(3, .int (itN (nS z ia - ik) (fun j => bkS z r0 s0 ia (nS z ia - 1 - j)) (itN ia (bkR z r0 s0) (-1)))), (0, .ref (a 0)), (1, .int (nI r0)), (2, .int (nI s0)), (4, .int (nI ia)), (5, .int (nI (ik - 1)))]) hx hb dX5_blockerOf_63 rfl hl (by decide) rfl (fun ls hl => ?_)
          refine lv_iinc (v := (nI (ik - 1) - nI 1)) (lv' := [(5, .int (nI (ik - 1) - nI 1)), (3, .int (itN (nS z ia - ik) (fun j => bkS z r0 s0 ia (nS z ia - 1 - j)) (itN ia (bkR z r0 s0) (-1)))), (0, .ref (a 0)), (1, .int (nI r0)), (2, .int (nI s0)), (4, .int (nI ia))]) hx hb dX5_blockerOf_64 hl (k := 5) rfl (kx_subm1 _) (by decide) rfl (fun ls hl => ?_)
          refine lv_goto (tgt := 22) hx hb dX5_blockerOf_67 (by decide) ?_
          have e22_20 : (itN (nS z ia - ik) (fun j => bkS z r0 s0 ia (nS z ia - 1 - j)) (itN ia (bkR z r0 s0) (-1)) : Int32) = (itN (nS z ia - (ik - 1)) (fun j => bkS z r0 s0 ia (nS z ia - 1 - j)) (itN ia (bkR z r0 s0) (-1))) := by first | (rw [Nat.sub_self]; rfl) | (rw [show nS z ia - (ik - 1) = (nS z ia - ik) + 1 by omega, itN_s, show nS z ia - 1 - (nS z ia - ik) = ik - 1 by omega]; simp [bkS, c_8_3, Nat.not_le.mpr c_8_3, c_35_15, c_48_18])
          have hl22_21 : lv_has ls 6 [(0, .ref (a 0)), (1, .int (nI r0)), (2, .int (nI s0)), (4, .int (nI ia)), (3, .int (itN (nS z ia - (ik - 1)) (fun j => bkS z r0 s0 ia (nS z ia - 1 - j)) (itN ia (bkR z r0 s0) (-1)))), (5, .int (nI (ik - 1) - nI 1))] := lv_eqv (l1 := [(0, .ref (a 0)), (1, .int (nI r0)), (2, .int (nI s0)), (4, .int (nI ia)), (3, .int (itN (nS z ia - ik) (fun j => bkS z r0 s0 ia (nS z ia - 1 - j)) (itN ia (bkR z r0 s0) (-1)))), (5, .int (nI (ik - 1) - nI 1))]) (lv_sub hl [2, 3, 4, 5, 1, 0] rfl) (lv_ce rfl (lv_ce rfl (lv_ce rfl (lv_ce rfl (lv_ce (congrArg Value.int e22_20) (lv_ce rfl rfl))))))
          exact ih22 _ (by omega) (hl22_21)
        · refine lv_bipush (v := nI 100) hx hb dX5_blockerOf_51 (by decide) ?_
          refine lv_iload hx hb dX5_blockerOf_53 (lv_at hl 3 rfl) ?_
          refine kx_imul hx hb dX5_blockerOf_55 ?_
          refine lv_iload hx hb dX5_blockerOf_56 (lv_at hl 5 rfl) ?_
          refine kx_iadd hx hb dX5_blockerOf_58 ?_
          refine lv_goto (tgt := 63) hx hb dX5_blockerOf_59 (by decide) ?_
          refine lv_istore_n (lv' := [(3, .int (nI ((100 * ia) + (ik - 1)))), (0, .ref (a 0)), (1, .int (nI r0)), (2, .int (nI s0)), (4, .int (nI ia)), (5, .int (nI (ik - 1)))]) hx hb dX5_blockerOf_63 rfl hl (by decide) rfl (fun ls hl => ?_)
          refine lv_iinc (v := (nI (ik - 1) - nI 1)) (lv' := [(5, .int (nI (ik - 1) - nI 1)), (3, .int (nI ((100 * ia) + (ik - 1)))), (0, .ref (a 0)), (1, .int (nI r0)), (2, .int (nI s0)), (4, .int (nI ia))]) hx hb dX5_blockerOf_64 hl (k := 5) rfl (kx_subm1 _) (by decide) rfl (fun ls hl => ?_)
          refine lv_goto (tgt := 22) hx hb dX5_blockerOf_67 (by decide) ?_
          have e22_22 : (nI ((100 * ia) + (ik - 1)) : Int32) = (itN (nS z ia - (ik - 1)) (fun j => bkS z r0 s0 ia (nS z ia - 1 - j)) (itN ia (bkR z r0 s0) (-1))) := by first | (rw [Nat.sub_self]; rfl) | (rw [show nS z ia - (ik - 1) = (nS z ia - ik) + 1 by omega, itN_s, show nS z ia - 1 - (nS z ia - ik) = ik - 1 by omega]; simp [bkS, c_8_3, Nat.not_le.mpr c_8_3, c_35_15, c_48_19])
          have hl22_23 : lv_has ls 6 [(0, .ref (a 0)), (1, .int (nI r0)), (2, .int (nI s0)), (4, .int (nI ia)), (3, .int (itN (nS z ia - (ik - 1)) (fun j => bkS z r0 s0 ia (nS z ia - 1 - j)) (itN ia (bkR z r0 s0) (-1)))), (5, .int (nI (ik - 1) - nI 1))] := lv_eqv (l1 := [(0, .ref (a 0)), (1, .int (nI r0)), (2, .int (nI s0)), (4, .int (nI ia)), (3, .int (nI ((100 * ia) + (ik - 1)))), (5, .int (nI (ik - 1) - nI 1))]) (lv_sub hl [2, 3, 4, 5, 1, 0] rfl) (lv_ce rfl (lv_ce rfl (lv_ce rfl (lv_ce rfl (lv_ce (congrArg Value.int e22_22) (lv_ce rfl rfl))))))
          exact ih22 _ (by omega) (hl22_23)
set_option maxHeartbeats 4000000 in
set_option maxRecDepth 100000 in
theorem c_X5_takenThen (l : Launch) (D : va_G) (cI cC cH cL : ClassId) (a : Nat → Nat) (z zh tx pa wy : ZZ) (st le th rd nu pt : Int32) (za : Int64) (r0 : Nat) (s0 : Nat) (hw : WF z) (hr : r0 < nR z) : Met l yX5_takenThen wsX5_takenThen ({ frames := 7, cells := 0, slots := 0, locals := 167 }) (kp [.ref (a 0), .int (nI r0), .int (nI s0)] D (MW a cI z st zh le tx th pa rd nu pt wy za) (kT cI cC cH cL)) (kr (.returned (some (.int (nI (takThen z r0 s0)))))) 0 0 (fun _ => False) := by
  refine Met.ofW (cc := cX5_takenThen) (maxL := 3) (ret := (some .int)) (by decide) rfl ?_
  intro p e s m args below meth c s₁ B hml hv
  obtain ⟨rfl, hP, hK⟩ := hv
  have hx := B.exec
  have hb := B.bytes
  have hrt := B.returns
  have hts := atoms_spec (ws := wsX5_takenThen) B.pre
  have hown : s.vm.findClass RX5 = some m.cls := findClass_of_methodNamed B.named
  have hlocks := B.notSynchronized
  have hl := lv_entry ([.ref (a 0), .int (nI r0), .int (nI s0)]) (n := 3) (Nat.le_of_ble_eq_true rfl)
  rw [lg_entry_eq]
  generalize (lg_sl ([.ref (a 0), .int (nI r0), .int (nI s0)]) ++ List.replicate (3 - (lg_sl ([.ref (a 0), .int (nI r0), .int (nI s0)])).length) Slot.unset).toArray = ls at hl ⊢
  have hl : lv_has ls 3 [(0, .ref (a 0)), (1, .int (nI r0)), (2, .int (nI s0))] := hl
  have hR10 := wf_R10 hw
  have hC4 := wf_C4 hw
  refine lv_aload_n hx hb dX5_takenThen_0 rfl (lv_at hl 0 rfl) ?_
  refine lv_iload_n hx hb dX5_takenThen_1 rfl (lv_at hl 1 rfl) ?_
  refine lv_iload_n hx hb dX5_takenThen_2 rfl (lv_at hl 2 rfl) ?_
  refine kr_V (As := [.int (nI r0), .int (nI s0)]) (rest := []) (C := RX5) (own := RX5) ⟨hx, hb, hml, hown, hts⟩ (c_X5_isTaken l D cI cC cH cL a z zh tx pa wy st le th rd nu pt za r0 s0 (by first | assumption | omega)) (cwV 2 hts gX5_takenThen_X5_isTaken rfl rfl rfl k_X5_isTaken ⟨Nat.le_of_ble_eq_true rfl, Nat.le_of_ble_eq_true rfl⟩) hP hK (va_recv (q := (RX5, TX5, 12)) hK hP (ci := 5) (q0 := 0) rfl rfl) rfl hl.1 rfl (Nat.le_of_ble_eq_true rfl) dX5_takenThen_3 ⟨Nat.le_of_ble_eq_true rfl, Nat.le_of_ble_eq_true rfl⟩ ?_
  refine kx_if_eqb (tgt := 13) hx hb dX5_takenThen_6 (by decide) (fun c_6_0 => ?_) (fun c_6_1 => ?_)
  · refine lv_aload_n hx hb dX5_takenThen_13 rfl (lv_at hl 0 rfl) ?_
    refine lv_iload_n hx hb dX5_takenThen_14 rfl (lv_at hl 1 rfl) ?_
    refine lv_iload_n hx hb dX5_takenThen_15 rfl (lv_at hl 2 rfl) ?_
    refine lv_iconst (v := nI 1) hx hb dX5_takenThen_16 (by decide) ?_
    refine kr_V (As := [.int (nI r0), .int (nI s0), .int (bI true)]) (rest := []) (C := RX5) (own := RX5) ⟨hx, hb, hml, hown, hts⟩ (c_X5_blocked l D cI cC cH cL a z zh tx pa wy st le th rd nu pt za r0 s0 true (by first | assumption | omega) (by first | assumption | omega)) (cwV 3 hts gX5_takenThen_X5_blocked rfl rfl rfl k_X5_blocked ⟨Nat.le_of_ble_eq_true rfl, Nat.le_of_ble_eq_true rfl⟩) hP hK (va_recv (q := (RX5, TX5, 12)) hK hP (ci := 5) (q0 := 0) rfl rfl) rfl hl.1 rfl (Nat.le_of_ble_eq_true rfl) dX5_takenThen_17 ⟨Nat.le_of_ble_eq_true rfl, Nat.le_of_ble_eq_true rfl⟩ ?_
    have e_2 : (blkd z r0 s0 true : Nat) = (takThen z r0 s0) := by first | rfl | omega | (simp [takThen, Int32.not_lt, Int32.not_le, c_6_0]; done) | (simp [takThen, Int32.not_lt, Int32.not_le, c_6_0]; omega) | (revert c_6_0; simp +contextual [takThen, Int32.not_lt, Int32.not_le]; done) | (revert c_6_0; simp +contextual [takThen, Int32.not_lt, Int32.not_le]; omega)
    exact kr_iret hx hb hrt hlocks (congrArg nI e_2) rfl dX5_takenThen_20
  · refine lv_iconst (v := nI 0) hx hb dX5_takenThen_9 (by decide) ?_
    refine lv_goto (tgt := 20) hx hb dX5_takenThen_10 (by decide) ?_
    have e_3 : (0 : Nat) = (takThen z r0 s0) := by first | rfl | omega | (simp [takThen, Int32.not_lt, Int32.not_le, c_6_1]; done) | (simp [takThen, Int32.not_lt, Int32.not_le, c_6_1]; omega) | (revert c_6_1; simp +contextual [takThen, Int32.not_lt, Int32.not_le]; done) | (revert c_6_1; simp +contextual [takThen, Int32.not_lt, Int32.not_le]; omega)
    exact kr_iret hx hb hrt hlocks (congrArg nI e_3) rfl dX5_takenThen_20
set_option maxHeartbeats 4000000 in
set_option maxRecDepth 100000 in
theorem c_X5_columnNow (l : Launch) (D : va_G) (cI cC cH cL : ClassId) (a : Nat → Nat) (z zh tx pa wy : ZZ) (st le th rd nu pt : Int32) (za : Int64) (k0 : Nat) (wh : Nat) (hw : WF z) (hk : k0 < 4) (hwh : wh < 4) : Met l yX5_columnNow wsX5_columnNow ({ frames := 4, cells := 0, slots := 0, locals := 93 }) (kp [.ref (a 0), .int (nI k0), .int (nI wh)] D (MW a cI z st zh le tx th pa rd nu pt wy za) (kT cI cC cH cL)) (kr (.returned (some (.int (colNow z k0 wh))))) 0 0 (fun _ => False) := by
  refine Met.ofW (cc := cX5_columnNow) (maxL := 3) (ret := (some .int)) (by decide) rfl ?_
  intro p e s m args below meth c s₁ B hml hv
  obtain ⟨rfl, hP, hK⟩ := hv
  have hx := B.exec
  have hb := B.bytes
  have hrt := B.returns
  have hts := atoms_spec (ws := wsX5_columnNow) B.pre
  have hown : s.vm.findClass RX5 = some m.cls := findClass_of_methodNamed B.named
  have hlocks := B.notSynchronized
  have hl := lv_entry ([.ref (a 0), .int (nI k0), .int (nI wh)]) (n := 3) (Nat.le_of_ble_eq_true rfl)
  rw [lg_entry_eq]
  generalize (lg_sl ([.ref (a 0), .int (nI k0), .int (nI wh)]) ++ List.replicate (3 - (lg_sl ([.ref (a 0), .int (nI k0), .int (nI wh)])).length) Slot.unset).toArray = ls at hl ⊢
  have hl : lv_has ls 3 [(0, .ref (a 0)), (1, .int (nI k0)), (2, .int (nI wh))] := hl
  have hR10 := wf_R10 hw
  have hC4 := wf_C4 hw
  refine lv_iload_n hx hb dX5_columnNow_0 rfl (lv_at hl 2 rfl) ?_
  refine lv_iconst (v := nI 3) hx hb dX5_columnNow_1 (by decide) ?_
  refine kx_icmp_ge (tgt := 14) hx hb (by omega) (by omega) dX5_columnNow_2 (by decide) (fun c_2_0 => ?_) (fun c_2_1 => ?_)
  · refine lv_aload_n hx hb dX5_columnNow_14 rfl (lv_at hl 0 rfl) ?_
    refine lv_iload_n hx hb dX5_columnNow_15 rfl (lv_at hl 1 rfl) ?_
    refine kr_V (As := [.int (nI k0)]) (rest := []) (C := RX5) (own := RX5) ⟨hx, hb, hml, hown, hts⟩ (c_X5_seatsBehind l D cI cC cH cL a z zh tx pa wy st le th rd nu pt za k0 (by first | assumption | omega) (by first | assumption | omega)) (cwV 1 hts gX5_columnNow_X5_seatsBehind rfl rfl rfl k_X5_seatsBehind ⟨Nat.le_of_ble_eq_true rfl, Nat.le_of_ble_eq_true rfl⟩) hP hK (va_recv (q := (RX5, TX5, 12)) hK hP (ci := 5) (q0 := 0) rfl rfl) rfl hl.1 rfl (Nat.le_of_ble_eq_true rfl) dX5_columnNow_16 ⟨Nat.le_of_ble_eq_true rfl, Nat.le_of_ble_eq_true rfl⟩ ?_
    have e_2 : (nI (cBeh z k0) : Int32) = (colNow z k0 wh) := by first | rfl | omega | (simp [colNow, Int32.not_lt, Int32.not_le, c_2_0, Nat.not_lt.mpr c_2_0]; done) | (simp [colNow, Int32.not_lt, Int32.not_le, c_2_0, Nat.not_lt.mpr c_2_0]; omega) | (revert c_2_0; simp +contextual [colNow, Int32.not_lt, Int32.not_le]; done) | (revert c_2_0; simp +contextual [colNow, Int32.not_lt, Int32.not_le]; omega)
    exact kr_iret hx hb hrt hlocks e_2 rfl dX5_columnNow_19
  · refine lv_aload_n hx hb dX5_columnNow_5 rfl (lv_at hl 0 rfl) ?_
    refine lv_iload_n hx hb dX5_columnNow_6 rfl (lv_at hl 1 rfl) ?_
    refine lv_iload_n hx hb dX5_columnNow_7 rfl (lv_at hl 2 rfl) ?_
    refine kr_V (As := [.int (nI k0), .int (nI wh)]) (rest := []) (C := RX5) (own := RX5) ⟨hx, hb, hml, hown, hts⟩ (c_X5_ofColumn l D cI cC cH cL a z zh tx pa wy st le th rd nu pt za k0 wh (by first | assumption | omega)) (cwV 2 hts gX5_columnNow_X5_ofColumn rfl rfl rfl k_X5_ofColumn ⟨Nat.le_of_ble_eq_true rfl, Nat.le_of_ble_eq_true rfl⟩) hP hK (va_recv (q := (RX5, TX5, 12)) hK hP (ci := 5) (q0 := 0) rfl rfl) rfl hl.1 rfl (Nat.le_of_ble_eq_true rfl) dX5_columnNow_8 ⟨Nat.le_of_ble_eq_true rfl, Nat.le_of_ble_eq_true rfl⟩ ?_
    refine lv_goto (tgt := 19) hx hb dX5_columnNow_11 (by decide) ?_
    have e_3 : (z (45 + 3 * k0 + wh) : Int32) = (colNow z k0 wh) := by first | rfl | omega | (simp [colNow, Int32.not_lt, Int32.not_le, c_2_1, Nat.not_le.mpr c_2_1]; done) | (simp [colNow, Int32.not_lt, Int32.not_le, c_2_1, Nat.not_le.mpr c_2_1]; omega) | (revert c_2_1; simp +contextual [colNow, Int32.not_lt, Int32.not_le]; done) | (revert c_2_1; simp +contextual [colNow, Int32.not_lt, Int32.not_le]; omega)
    exact kr_iret hx hb hrt hlocks e_3 rfl dX5_columnNow_19
set_option maxHeartbeats 4000000 in
set_option maxRecDepth 100000 in
theorem c_X5_liftedThen (l : Launch) (D : va_G) (cI cC cH cL : ClassId) (a : Nat → Nat) (z zh tx pa wy : ZZ) (st le th rd nu pt : Int32) (za : Int64) (r0 : Nat) (h0 : Int32) (hw : WF z) (hr : r0 < nR z) : Met l yX5_liftedThen wsX5_liftedThen ({ frames := 8, cells := 0, slots := 0, locals := 187 }) (kw [.ref (a 0), .int (nI r0), .int h0] D (MW a cI z st zh le tx th pa rd nu pt wy za) (kT cI cC cH cL)) (kq D (MW a cI z st zh le tx th pa rd nu pt wy za) (MW a cI z st zh le tx th pa rd nu pt wy za) (.returned (some (.int (nI (liftThen z r0 h0)))))) 0 0 (kA (MW a cI z st zh le tx th pa rd nu pt wy za)) := by
  refine Met.ofW (cc := cX5_liftedThen) (maxL := 5) (ret := (some .int)) (by decide) rfl ?_
  intro p e s m args below meth c s₁ B hml hv
  obtain ⟨rfl, hP, hK, hD0⟩ := hv
  have hx := B.exec
  have hb := B.bytes
  have hrt := B.returns
  have hts := atoms_spec (ws := wsX5_liftedThen) B.pre
  have hown : s.vm.findClass RX5 = some m.cls := findClass_of_methodNamed B.named
  have hlocks := B.notSynchronized
  have hl := lv_entry ([.ref (a 0), .int (nI r0), .int h0]) (n := 5) (Nat.le_of_ble_eq_true rfl)
  rw [lg_entry_eq]
  generalize (lg_sl ([.ref (a 0), .int (nI r0), .int h0]) ++ List.replicate (5 - (lg_sl ([.ref (a 0), .int (nI r0), .int h0])).length) Slot.unset).toArray = ls at hl ⊢
  have hl : lv_has ls 5 [(0, .ref (a 0)), (1, .int (nI r0)), (2, .int h0)] := hl
  have hD := kA_self hD0
  obtain ⟨w0, hw0⟩ : ∃ w : va_W, w = MW a cI z st zh le tx th pa rd nu pt wy za := ⟨_, rfl⟩
  have hD : va_D (kA w0) (MW a cI z st zh le tx th pa rd nu pt wy za) := by rw [hw0]; exact hD
  have hS : va_S (kA w0) s.heap s.heap [] := va_S.rf
  rw [show kA (MW a cI z st zh le tx th pa rd nu pt wy za) = kA w0 from by rw [hw0], show kq D (MW a cI z st zh le tx th pa rd nu pt wy za) = kq D w0 from by rw [hw0]]
  have hP : va_P D vwCl (MW a cI z st zh le tx th pa rd nu pt wy za) s.heap := hP
  have hR10 := wf_R10 hw
  have hC4 := wf_C4 hw
  refine lv_aload_n hx hb dX5_liftedThen_0 rfl (lv_at hl 0 rfl) ?_
  refine lv_iload_n hx hb dX5_liftedThen_1 rfl (lv_at hl 1 rfl) ?_
  refine lv_iconst (v := nI 1) hx hb dX5_liftedThen_2 (by decide) ?_
  refine kr_V (As := [.int (nI r0), .int (nI 1)]) (rest := []) (C := RX5) (own := RX5) ⟨hx, hb, hml, hown, hts⟩ (c_X5_of l D cI cC cH cL a z zh tx pa wy st le th rd nu pt za r0 1 (by first | assumption | omega)) (cwV 2 hts gX5_liftedThen_X5_of rfl rfl rfl k_X5_of ⟨Nat.le_of_ble_eq_true rfl, Nat.le_of_ble_eq_true rfl⟩) hP hK (va_recv (q := (RX5, TX5, 12)) hK hP (ci := 5) (q0 := 0) rfl rfl) rfl hl.1 rfl (Nat.le_of_ble_eq_true rfl) dX5_liftedThen_3 ⟨Nat.le_of_ble_eq_true rfl, Nat.le_of_ble_eq_true rfl⟩ ?_
  refine lv_istore_n (lv' := [(3, .int (z (5 + 4 * r0 + 1))), (0, .ref (a 0)), (1, .int (nI r0)), (2, .int h0)]) hx hb dX5_liftedThen_6 rfl hl (by decide) rfl (fun ls hl => ?_)
  refine lv_aload_n hx hb dX5_liftedThen_7 rfl (lv_at hl 1 rfl) ?_
  refine lv_iload_n hx hb dX5_liftedThen_8 rfl (lv_at hl 2 rfl) ?_
  refine lv_iconst (v := nI 1) hx hb dX5_liftedThen_9 (by decide) ?_
  refine lv_iload_n hx hb dX5_liftedThen_10 rfl (lv_at hl 3 rfl) ?_
  refine kw_V (As := [.int (nI r0), .int (nI 1), .int h0]) (rest := []) (C := RX5) (own := RX5) ⟨hx, hb, hml, hown, hts⟩ (c_X5_put l D cI cC cH cL a z zh tx pa wy st le th rd nu pt za r0 1 h0 (by first | assumption | omega)) (cwV 3 hts gX5_liftedThen_X5_put rfl rfl rfl k_X5_put ⟨Nat.le_of_ble_eq_true rfl, Nat.le_of_ble_eq_true rfl⟩) hP hD hK hS [0, 1, 2, 3, 4, 5] [] rfl rfl (wr := []) rfl (by decide) (by decide) (by decide) (va_recv (q := (RX5, TX5, 12)) hK hP (ci := 5) (q0 := 0) rfl rfl) rfl hl.1 rfl (Nat.le_of_ble_eq_true rfl) dX5_liftedThen_11 ⟨Nat.le_of_ble_eq_true rfl, Nat.le_of_ble_eq_true rfl⟩ (fun H locs hP hD hS => ?_)
  have hP : va_P D vwCl (MW a cI (upd z (5 + 4 * r0 + 1) h0) st zh le tx th pa rd nu pt wy za) H := hP
  have hD : va_D (kA w0) (MW a cI (upd z (5 + 4 * r0 + 1) h0) st zh le tx th pa rd nu pt wy za) := hD
  refine lv_aload_n hx hb dX5_liftedThen_14 rfl (lv_at hl 1 rfl) ?_
  refine lv_iconst (v := nI 1) hx hb dX5_liftedThen_15 (by decide) ?_
  refine kr_V (As := [.int (bI true)]) (rest := []) (C := RX5) (own := RX5) ⟨hx, hb, hml, hown, hts⟩ (c_X5_seeing l D cI cC cH cL a (upd z (5 + 4 * r0 + 1) h0) zh tx pa wy st le th rd nu pt za true (by exact wf_h hw _ _)) (cwV 1 hts gX5_liftedThen_X5_seeing rfl rfl rfl k_X5_seeing ⟨Nat.le_of_ble_eq_true rfl, Nat.le_of_ble_eq_true rfl⟩) hP hK (va_recv (q := (RX5, TX5, 12)) hK hP (ci := 5) (q0 := 0) rfl rfl) rfl hl.1 rfl (Nat.le_of_ble_eq_true rfl) dX5_liftedThen_16 ⟨Nat.le_of_ble_eq_true rfl, Nat.le_of_ble_eq_true rfl⟩ ?_
  refine lv_istore (lv' := [(4, .int (nI (seeing (upd z (5 + 4 * r0 + 1) h0) true))), (3, .int (z (5 + 4 * r0 + 1))), (0, .ref (a 0)), (1, .int (nI r0)), (2, .int h0)]) hx hb dX5_liftedThen_19 hl (by decide) rfl (fun ls hl => ?_)
  refine lv_aload_n hx hb dX5_liftedThen_21 rfl (lv_at hl 2 rfl) ?_
  refine lv_iload_n hx hb dX5_liftedThen_22 rfl (lv_at hl 3 rfl) ?_
  refine lv_iconst (v := nI 1) hx hb dX5_liftedThen_23 (by decide) ?_
  refine lv_iload_n hx hb dX5_liftedThen_24 rfl (lv_at hl 1 rfl) ?_
  refine kw_V (As := [.int (nI r0), .int (nI 1), .int (z (5 + 4 * r0 + 1))]) (rest := []) (C := RX5) (own := RX5) ⟨hx, hb, hml, hown, hts⟩ (c_X5_put l D cI cC cH cL a (upd z (5 + 4 * r0 + 1) h0) zh tx pa wy st le th rd nu pt za r0 1 (z (5 + 4 * r0 + 1)) (by first | assumption | omega)) (cwV 3 hts gX5_liftedThen_X5_put rfl rfl rfl k_X5_put ⟨Nat.le_of_ble_eq_true rfl, Nat.le_of_ble_eq_true rfl⟩) hP hD hK hS [0, 1, 2, 3, 4, 5] [] rfl rfl (wr := []) rfl (by decide) (by decide) (by decide) (va_recv (q := (RX5, TX5, 12)) hK hP (ci := 5) (q0 := 0) rfl rfl) rfl hl.1 rfl (Nat.le_of_ble_eq_true rfl) dX5_liftedThen_25 ⟨Nat.le_of_ble_eq_true rfl, Nat.le_of_ble_eq_true rfl⟩ (fun H locs hP hD hS => ?_)
  have hP : va_P D vwCl (MW a cI (upd (upd z (5 + 4 * r0 + 1) h0) (5 + 4 * r0 + 1) (z (5 + 4 * r0 + 1))) st zh le tx th pa rd nu pt wy za) H := hP
  have hD : va_D (kA w0) (MW a cI (upd (upd z (5 + 4 * r0 + 1) h0) (5 + 4 * r0 + 1) (z (5 + 4 * r0 + 1))) st zh le tx th pa rd nu pt wy za) := hD
  refine lv_iload hx hb dX5_liftedThen_28 (lv_at hl 0 rfl) ?_
  have e_0 : (seeing (upd z (5 + 4 * r0 + 1) h0) true : Nat) = (liftThen z r0 h0) := by first | rfl | omega | (simp [liftThen, Int32.not_lt, Int32.not_le]; done) | (simp [liftThen, Int32.not_lt, Int32.not_le]; omega)
  have ec_z_1 : ((upd (upd z (5 + 4 * r0 + 1) h0) (5 + 4 * r0 + 1) (z (5 + 4 * r0 + 1))) : ZZ) = z := by exact upd_back _ _ _
  have ew_2 : (MW a cI (upd (upd z (5 + 4 * r0 + 1) h0) (5 + 4 * r0 + 1) (z (5 + 4 * r0 + 1))) st zh le tx th pa rd nu pt wy za : va_W) = (MW a cI z st zh le tx th pa rd nu pt wy za) := mw_c ec_z_1 rfl rfl rfl rfl rfl rfl rfl rfl rfl rfl rfl
  rw [ew_2] at hP hD
  subst hw0
  exact kq_iret hx hb hrt hlocks (congrArg nI e_0) hP hD hS dX5_liftedThen_30
set_option maxRecDepth 20000 in
theorem iX5_bestAt_5 : ∀ w ∈ wsX50, w ∈ wsX5_bestAt := by decide +kernel
set_option maxHeartbeats 4000000 in
set_option maxRecDepth 100000 in
theorem c_X5_bestAt (l : Launch) (D : va_G) (cI cC cH cL : ClassId) (a : Nat → Nat) (z zh tx pa wy : ZZ) (st le th rd nu pt : Int32) (za : Int64) (pl : Int32) (hw : WF z) : Met l yX5_bestAt wsX5_bestAt ({ frames := 6, cells := 0, slots := 0, locals := 140 }) (kw [.ref (a 0), .int pl] D (MW a cI z st zh le tx th pa rd nu pt wy za) (kT cI cC cH cL)) (kq D (MW a cI z st zh le tx th pa rd nu pt wy za) (MW a cI z st zh le tx th pa rd nu pt (layF z wy) za) (.returned (some (.int (bestI z (layF z wy) pl))))) 0 0 (kA (MW a cI z st zh le tx th pa rd nu pt wy za)) := by
  refine Met.ofW (cc := cX5_bestAt) (maxL := 6) (ret := (some .int)) (by decide) rfl ?_
  intro p e s m args below meth c s₁ B hml hv
  obtain ⟨rfl, hP, hK, hD0⟩ := hv
  have hx := B.exec
  have hb := B.bytes
  have hrt := B.returns
  have hts := atoms_spec (ws := wsX5_bestAt) B.pre
  have hown : s.vm.findClass RX5 = some m.cls := findClass_of_methodNamed B.named
  have hlocks := B.notSynchronized
  have hl := lv_entry ([.ref (a 0), .int pl]) (n := 6) (Nat.le_of_ble_eq_true rfl)
  rw [lg_entry_eq]
  generalize (lg_sl ([.ref (a 0), .int pl]) ++ List.replicate (6 - (lg_sl ([.ref (a 0), .int pl])).length) Slot.unset).toArray = ls at hl ⊢
  have hl : lv_has ls 6 [(0, .ref (a 0)), (1, .int pl)] := hl
  have hD := kA_self hD0
  obtain ⟨w0, hw0⟩ : ∃ w : va_W, w = MW a cI z st zh le tx th pa rd nu pt wy za := ⟨_, rfl⟩
  have hD : va_D (kA w0) (MW a cI z st zh le tx th pa rd nu pt wy za) := by rw [hw0]; exact hD
  have hS : va_S (kA w0) s.heap s.heap [] := va_S.rf
  rw [show kA (MW a cI z st zh le tx th pa rd nu pt wy za) = kA w0 from by rw [hw0], show kq D (MW a cI z st zh le tx th pa rd nu pt wy za) = kq D w0 from by rw [hw0]]
  have hP : va_P D vwCl (MW a cI z st zh le tx th pa rd nu pt wy za) s.heap := hP
  have hR10 := wf_R10 hw
  have hC4 := wf_C4 hw
  refine lv_aload_n hx hb dX5_bestAt_0 rfl (lv_at hl 0 rfl) ?_
  refine kw_V (As := []) (rest := []) (C := RX5) (own := RX5) ⟨hx, hb, hml, hown, hts⟩ (c_X5_layWays l D cI cC cH cL a z zh tx pa wy st le th rd nu pt za  (by first | assumption | omega)) (cwV 0 hts gX5_bestAt_X5_layWays rfl rfl rfl k_X5_layWays ⟨Nat.le_of_ble_eq_true rfl, Nat.le_of_ble_eq_true rfl⟩) hP hD hK hS [0, 1, 2, 3, 4, 5] [] rfl rfl (wr := []) rfl (by decide) (by decide) (by decide) (va_recv (q := (RX5, TX5, 12)) hK hP (ci := 5) (q0 := 0) rfl rfl) rfl hl.1 rfl (Nat.le_of_ble_eq_true rfl) dX5_bestAt_1 ⟨Nat.le_of_ble_eq_true rfl, Nat.le_of_ble_eq_true rfl⟩ (fun H locs hP hD hS => ?_)
  have hP : va_P D vwCl (MW a cI z st zh le tx th pa rd nu pt (layF z wy) za) H := hP
  have hD : va_D (kA w0) (MW a cI z st zh le tx th pa rd nu pt (layF z wy) za) := hD
  refine lv_iconst (v := (-1)) hx hb dX5_bestAt_4 (by decide) ?_
  refine lv_istore_n (lv' := [(2, .int (-1)), (0, .ref (a 0)), (1, .int pl)]) hx hb dX5_bestAt_5 rfl hl (by decide) rfl (fun ls hl => ?_)
  refine lv_iconst (v := nI 0) hx hb dX5_bestAt_6 (by decide) ?_
  refine lv_istore_n (lv' := [(3, .int (nI 0)), (2, .int (-1)), (0, .ref (a 0)), (1, .int pl)]) hx hb dX5_bestAt_7 rfl hl (by decide) rfl (fun ls hl => ?_)
  have e8_0 : ((-1) : Int32) = (itN 0 (bsR z (layF z wy) pl) (-1)) := by first | rfl | omega | (simp [bestI, bsR, bsS, itN_s, Int32.not_lt, Int32.not_le]; done) | (simp [bestI, bsR, bsS, itN_s, Int32.not_lt, Int32.not_le]; omega)
  have hl8_1 : lv_has ls 6 [(0, .ref (a 0)), (1, .int pl), (2, .int (itN 0 (bsR z (layF z wy) pl) (-1))), (3, .int (nI 0))] := lv_eqv (l1 := [(0, .ref (a 0)), (1, .int pl), (2, .int (-1)), (3, .int (nI 0))]) (lv_sub hl [2, 3, 1, 0] rfl) (lv_ce rfl (lv_ce rfl (lv_ce (congrArg Value.int e8_0) (lv_ce rfl rfl))))
  refine kx_upW (fun k H locs ls => (va_P D vwCl (MW a cI z st zh le tx th pa rd nu pt (layF z wy) za) H ∧ va_D (kA w0) (MW a cI z st zh le tx th pa rd nu pt (layF z wy) za) ∧ va_S (kA w0) s.heap H locs) ∧ lv_has ls 6 [(0, .ref (a 0)), (1, .int pl), (2, .int (itN k (bsR z (layF z wy) pl) (-1))), (3, .int (nI k))]) (0) (nR z) (by omega) _ _ ls ⟨⟨hP, hD, hS⟩, hl8_1⟩ ?_
  clear hP hD hS
  intro ir H locs ls hirl hirh hp ih8
  obtain ⟨⟨hP, hD, hS⟩, hp⟩ := hp
  have hl := hp
  refine lv_iload_n hx hb dX5_bestAt_8 rfl (lv_at hl 3 rfl) ?_
  refine lv_aload_n hx hb dX5_bestAt_9 rfl (lv_at hl 0 rfl) ?_
  refine va_get (D := D) (ci := 5) (v := .ref (a 1)) (C := RX5) (T := TX5) (N := 12) hx hb hts iX5_bestAt_5 hown hK hP 0 rfl rfl 0 (by decide) (hts (.fieldLink RX5 7 "HallSightsModel" "z" "[I") (List.mem_of_getElem? (i := 1) rfl)) (fun _ h9 => h9) rfl dX5_bestAt_10 ?_
  refine lv_iconst (v := nI 3) hx hb dX5_bestAt_13 (by decide) ?_
  refine kx_iald hx hb hK hP 1 0 rfl rfl (by omega) (by decide) dX5_bestAt_14 ?_
  refine kx_top (wf_R hw) ?_
  refine kx_icmp_ge (tgt := 90) hx hb (by omega) (by omega) dX5_bestAt_15 (by decide) (fun c_15_2 => ?_) (fun c_15_3 => ?_)
  · have hq4 : nR z = ir := by omega
    subst hq4
    refine lv_iload_n hx hb dX5_bestAt_90 rfl (lv_at hl 2 rfl) ?_
    have e_5 : (itN (nR z) (bsR z (layF z wy) pl) (-1) : Int32) = (bestI z (layF z wy) pl) := by first | rfl | omega | (simp [bestI, bsR, bsS, itN_s, Int32.not_lt, Int32.not_le, c_15_2, Nat.not_lt.mpr c_15_2]; done) | (simp [bestI, bsR, bsS, itN_s, Int32.not_lt, Int32.not_le, c_15_2, Nat.not_lt.mpr c_15_2]; omega) | (revert c_15_2; simp +contextual [bestI, bsR, bsS, itN_s, Int32.not_lt, Int32.not_le]; done) | (revert c_15_2; simp +contextual [bestI, bsR, bsS, itN_s, Int32.not_lt, Int32.not_le]; omega)
    subst hw0
    exact kq_iret hx hb hrt hlocks e_5 hP hD hS dX5_bestAt_91
  · refine lv_iconst (v := nI 0) hx hb dX5_bestAt_18 (by decide) ?_
    refine lv_istore (lv' := [(4, .int (nI 0)), (0, .ref (a 0)), (1, .int pl), (2, .int (itN ir (bsR z (layF z wy) pl) (-1))), (3, .int (nI ir))]) hx hb dX5_bestAt_19 hl (by decide) rfl (fun ls hl => ?_)
    have e21_6 : (itN ir (bsR z (layF z wy) pl) (-1) : Int32) = (itN 0 (bsS z (layF z wy) pl ir) (itN ir (bsR z (layF z wy) pl) (-1))) := by first | rfl | omega | (simp [bestI, bsR, bsS, itN_s, Int32.not_lt, Int32.not_le, c_15_3, Nat.not_le.mpr c_15_3]; done) | (simp [bestI, bsR, bsS, itN_s, Int32.not_lt, Int32.not_le, c_15_3, Nat.not_le.mpr c_15_3]; omega) | (revert c_15_3; simp +contextual [bestI, bsR, bsS, itN_s, Int32.not_lt, Int32.not_le]; done) | (revert c_15_3; simp +contextual [bestI, bsR, bsS, itN_s, Int32.not_lt, Int32.not_le]; omega)
    have hl21_7 : lv_has ls 6 [(0, .ref (a 0)), (1, .int pl), (3, .int (nI ir)), (2, .int (itN 0 (bsS z (layF z wy) pl ir) (itN ir (bsR z (layF z wy) pl) (-1)))), (4, .int (nI 0))] := lv_eqv (l1 := [(0, .ref (a 0)), (1, .int pl), (3, .int (nI ir)), (2, .int (itN ir (bsR z (layF z wy) pl) (-1))), (4, .int (nI 0))]) (lv_sub hl [1, 2, 4, 3, 0] rfl) (lv_ce rfl (lv_ce rfl (lv_ce rfl (lv_ce (congrArg Value.int e21_6) (lv_ce rfl rfl)))))
    refine kx_upW (fun k H locs ls => (va_P D vwCl (MW a cI z st zh le tx th pa rd nu pt (layF z wy) za) H ∧ va_D (kA w0) (MW a cI z st zh le tx th pa rd nu pt (layF z wy) za) ∧ va_S (kA w0) s.heap H locs) ∧ lv_has ls 6 [(0, .ref (a 0)), (1, .int pl), (3, .int (nI ir)), (2, .int (itN k (bsS z (layF z wy) pl ir) (itN ir (bsR z (layF z wy) pl) (-1)))), (4, .int (nI k))]) (0) (nS z ir) (by omega) _ _ ls ⟨⟨hP, hD, hS⟩, hl21_7⟩ ?_
    clear hP hD hS
    intro iw H locs ls hiwl hiwh hp ih21
    obtain ⟨⟨hP, hD, hS⟩, hp⟩ := hp
    have hl := hp
    have hS21 := wf_S12 hw (show ir < nR z by omega)
    refine lv_iload hx hb dX5_bestAt_21 (lv_at hl 4 rfl) ?_
    refine lv_aload_n hx hb dX5_bestAt_23 rfl (lv_at hl 0 rfl) ?_
    refine lv_iload_n hx hb dX5_bestAt_24 rfl (lv_at hl 2 rfl) ?_
    refine lv_iconst (v := nI 2) hx hb dX5_bestAt_25 (by decide) ?_
    refine kr_V (As := [.int (nI ir), .int (nI 2)]) (rest := [.int (nI iw)]) (C := RX5) (own := RX5) ⟨hx, hb, hml, hown, hts⟩ (c_X5_of l D cI cC cH cL a z zh tx pa (layF z wy) st le th rd nu pt za ir 2 (by first | assumption | omega)) (cwV 2 hts gX5_bestAt_X5_of rfl rfl rfl k_X5_of ⟨Nat.le_of_ble_eq_true rfl, Nat.le_of_ble_eq_true rfl⟩) hP hK (va_recv (q := (RX5, TX5, 12)) hK hP (ci := 5) (q0 := 0) rfl rfl) rfl hl.1 rfl (Nat.le_of_ble_eq_true rfl) dX5_bestAt_26 ⟨Nat.le_of_ble_eq_true rfl, Nat.le_of_ble_eq_true rfl⟩ ?_
    refine kx_top (wf_S hw (show (ir) < nR z by omega)) ?_
    have hS12_8 := wf_S12 hw (show (ir) < nR z by omega)
    refine kx_icmp_ge (tgt := 84) hx hb (by omega) (by omega) dX5_bestAt_29 (by decide) (fun c_29_9 => ?_) (fun c_29_10 => ?_)
    · have hq11 : nS z ir = iw := by omega
      subst hq11
      refine lv_iinc (v := nI (ir + 1)) (lv' := [(3, .int (nI (ir + 1))), (0, .ref (a 0)), (1, .int pl), (2, .int (itN (nS z ir) (bsS z (layF z wy) pl ir) (itN ir (bsR z (layF z wy) pl) (-1)))), (4, .int (nI (nS z ir)))]) hx hb dX5_bestAt_84 hl (k := 2) rfl (kx_inc 1) (by decide) rfl (fun ls hl => ?_)
      refine lv_goto (tgt := 8) hx hb dX5_bestAt_87 (by decide) ?_
      have e8_12 : (itN (nS z ir) (bsS z (layF z wy) pl ir) (itN ir (bsR z (layF z wy) pl) (-1)) : Int32) = (itN (ir + 1) (bsR z (layF z wy) pl) (-1)) := by first | rfl | omega | (simp [bestI, bsR, bsS, itN_s, Int32.not_lt, Int32.not_le, c_15_3, Nat.not_le.mpr c_15_3, c_29_9, Nat.not_lt.mpr c_29_9]; done) | (simp [bestI, bsR, bsS, itN_s, Int32.not_lt, Int32.not_le, c_15_3, Nat.not_le.mpr c_15_3, c_29_9, Nat.not_lt.mpr c_29_9]; omega) | (revert c_15_3 c_29_9; simp +contextual [bestI, bsR, bsS, itN_s, Int32.not_lt, Int32.not_le]; done) | (revert c_15_3 c_29_9; simp +contextual [bestI, bsR, bsS, itN_s, Int32.not_lt, Int32.not_le]; omega)
      have e8_13 : (ir + 1 : Nat) = ((ir + 1)) := by first | rfl | omega | (simp [bestI, bsR, bsS, itN_s, Int32.not_lt, Int32.not_le, c_15_3, Nat.not_le.mpr c_15_3, c_29_9, Nat.not_lt.mpr c_29_9]; done) | (simp [bestI, bsR, bsS, itN_s, Int32.not_lt, Int32.not_le, c_15_3, Nat.not_le.mpr c_15_3, c_29_9, Nat.not_lt.mpr c_29_9]; omega) | (revert c_15_3 c_29_9; simp +contextual [bestI, bsR, bsS, itN_s, Int32.not_lt, Int32.not_le]; done) | (revert c_15_3 c_29_9; simp +contextual [bestI, bsR, bsS, itN_s, Int32.not_lt, Int32.not_le]; omega)
      have hl8_14 : lv_has ls 6 [(0, .ref (a 0)), (1, .int pl), (2, .int (itN (ir + 1) (bsR z (layF z wy) pl) (-1))), (3, .int (nI (ir + 1)))] := lv_eqv (l1 := [(0, .ref (a 0)), (1, .int pl), (2, .int (itN (nS z ir) (bsS z (layF z wy) pl ir) (itN ir (bsR z (layF z wy) pl) (-1)))), (3, .int (nI (ir + 1)))]) (lv_sub hl [1, 2, 3, 0] rfl) (lv_ce rfl (lv_ce rfl (lv_ce (congrArg Value.int e8_12) (lv_ce (congrArg (fun x => Value.int (nI x)) e8_13) rfl))))
      exact ih8 _ _ _ (by omega) ⟨⟨hP, hD, hS⟩, hl8_14⟩
    · refine lv_aload_n hx hb dX5_bestAt_32 rfl (lv_at hl 0 rfl) ?_
      refine lv_iload_n hx hb dX5_bestAt_33 rfl (lv_at hl 2 rfl) ?_
      refine lv_iload hx hb dX5_bestAt_34 (lv_at hl 4 rfl) ?_
      refine kr_V (As := [.int (nI ir), .int (nI iw)]) (rest := []) (C := RX5) (own := RX5) ⟨hx, hb, hml, hown, hts⟩ (c_X5_isTaken l D cI cC cH cL a z zh tx pa (layF z wy) st le th rd nu pt za ir iw (by first | assumption | omega)) (cwV 2 hts gX5_bestAt_X5_isTaken rfl rfl rfl k_X5_isTaken ⟨Nat.le_of_ble_eq_true rfl, Nat.le_of_ble_eq_true rfl⟩) hP hK (va_recv (q := (RX5, TX5, 12)) hK hP (ci := 5) (q0 := 0) rfl rfl) rfl hl.1 rfl (Nat.le_of_ble_eq_true rfl) dX5_bestAt_36 ⟨Nat.le_of_ble_eq_true rfl, Nat.le_of_ble_eq_true rfl⟩ ?_
      refine kx_if_neb (tgt := 58) hx hb dX5_bestAt_39 (by decide) (fun c_39_15 => ?_) (fun c_39_16 => ?_)
      · refine lv_iconst (v := nI 0) hx hb dX5_bestAt_58 (by decide) ?_
        refine lv_istore (lv' := [(5, .int (nI 0)), (0, .ref (a 0)), (1, .int pl), (3, .int (nI ir)), (2, .int (itN iw (bsS z (layF z wy) pl ir) (itN ir (bsR z (layF z wy) pl) (-1)))), (4, .int (nI iw))]) hx hb dX5_bestAt_59 hl (by decide) rfl (fun ls hl => ?_)
        refine lv_iload hx hb dX5_bestAt_61 (lv_at hl 0 rfl) ?_
        refine kx_if_eq (tgt := 76) hx hb (by omega) dX5_bestAt_63 (by decide) (fun c_63_17 => ?_) (fun c => absurd c (by omega))
        refine lv_iload_n hx hb dX5_bestAt_76 rfl (lv_at hl 4 rfl) ?_
        refine lv_istore_n (lv' := [(2, .int (itN iw (bsS z (layF z wy) pl ir) (itN ir (bsR z (layF z wy) pl) (-1)))), (5, .int (nI 0)), (0, .ref (a 0)), (1, .int pl), (3, .int (nI ir)), (4, .int (nI iw))]) hx hb dX5_bestAt_77 rfl hl (by decide) rfl (fun ls hl => ?_)
        refine lv_iinc (v := nI (iw + 1)) (lv' := [(4, .int (nI (iw + 1))), (2, .int (itN iw (bsS z (layF z wy) pl ir) (itN ir (bsR z (layF z wy) pl) (-1)))), (5, .int (nI 0)), (0, .ref (a 0)), (1, .int pl), (3, .int (nI ir))]) hx hb dX5_bestAt_78 hl (k := 5) rfl (kx_inc 1) (by decide) rfl (fun ls hl => ?_)
        refine lv_goto (tgt := 21) hx hb dX5_bestAt_81 (by decide) ?_
        have e21_18 : (itN iw (bsS z (layF z wy) pl ir) (itN ir (bsR z (layF z wy) pl) (-1)) : Int32) = (itN (iw + 1) (bsS z (layF z wy) pl ir) (itN ir (bsR z (layF z wy) pl) (-1))) := by first | rfl | omega | (simp [bestI, bsR, bsS, itN_s, Int32.not_lt, Int32.not_le, c_15_3, Nat.not_le.mpr c_15_3, c_29_10, Nat.not_le.mpr c_29_10, c_39_15]; done) | (simp [bestI, bsR, bsS, itN_s, Int32.not_lt, Int32.not_le, c_15_3, Nat.not_le.mpr c_15_3, c_29_10, Nat.not_le.mpr c_29_10, c_39_15]; omega) | (revert c_15_3 c_29_10 c_39_15; simp +contextual [bestI, bsR, bsS, itN_s, Int32.not_lt, Int32.not_le]; done) | (revert c_15_3 c_29_10 c_39_15; simp +contextual [bestI, bsR, bsS, itN_s, Int32.not_lt, Int32.not_le]; omega)
        have e21_19 : (iw + 1 : Nat) = ((iw + 1)) := by first | rfl | omega | (simp [bestI, bsR, bsS, itN_s, Int32.not_lt, Int32.not_le, c_15_3, Nat.not_le.mpr c_15_3, c_29_10, Nat.not_le.mpr c_29_10, c_39_15]; done) | (simp [bestI, bsR, bsS, itN_s, Int32.not_lt, Int32.not_le, c_15_3, Nat.not_le.mpr c_15_3, c_29_10, Nat.not_le.mpr c_29_10, c_39_15]; omega) | (revert c_15_3 c_29_10 c_39_15; simp +contextual [bestI, bsR, bsS, itN_s, Int32.not_lt, Int32.not_le]; done) | (revert c_15_3 c_29_10 c_39_15; simp +contextual [bestI, bsR, bsS, itN_s, Int32.not_lt, Int32.not_le]; omega)
        have hl21_20 : lv_has ls 6 [(0, .ref (a 0)), (1, .int pl), (3, .int (nI ir)), (2, .int (itN (iw + 1) (bsS z (layF z wy) pl ir) (itN ir (bsR z (layF z wy) pl) (-1)))), (4, .int (nI (iw + 1)))] := lv_eqv (l1 := [(0, .ref (a 0)), (1, .int pl), (3, .int (nI ir)), (2, .int (itN iw (bsS z (layF z wy) pl ir) (itN ir (bsR z (layF z wy) pl) (-1)))), (4, .int (nI (iw + 1)))]) (lv_sub hl [3, 4, 5, 1, 0] rfl) (lv_ce rfl (lv_ce rfl (lv_ce rfl (lv_ce (congrArg Value.int e21_18) (lv_ce (congrArg (fun x => Value.int (nI x)) e21_19) rfl)))))
        exact ih21 _ _ _ (by omega) ⟨⟨hP, hD, hS⟩, hl21_20⟩
      · refine lv_aload_n hx hb dX5_bestAt_42 rfl (lv_at hl 0 rfl) ?_
        refine lv_iload_n hx hb dX5_bestAt_43 rfl (lv_at hl 2 rfl) ?_
        refine lv_iload hx hb dX5_bestAt_44 (lv_at hl 4 rfl) ?_
        refine lv_iconst (v := nI 1) hx hb dX5_bestAt_46 (by decide) ?_
        refine kr_V (As := [.int (nI ir), .int (nI iw), .int (bI true)]) (rest := []) (C := RX5) (own := RX5) ⟨hx, hb, hml, hown, hts⟩ (c_X5_seatsAhead l D cI cC cH cL a z zh tx pa (layF z wy) st le th rd nu pt za ir iw true (by first | assumption | omega) (by first | assumption | omega) (by omega)) (cwV 3 hts gX5_bestAt_X5_seatsAhead rfl rfl rfl k_X5_seatsAhead ⟨Nat.le_of_ble_eq_true rfl, Nat.le_of_ble_eq_true rfl⟩) hP hK (va_recv (q := (RX5, TX5, 12)) hK hP (ci := 5) (q0 := 0) rfl rfl) rfl hl.1 rfl (Nat.le_of_ble_eq_true rfl) dX5_bestAt_47 ⟨Nat.le_of_ble_eq_true rfl, Nat.le_of_ble_eq_true rfl⟩ ?_
        refine lv_iload_n hx hb dX5_bestAt_50 rfl (lv_at hl 1 rfl) ?_
        refine lv_icmp_ne (tgt := 58) hx hb dX5_bestAt_51 (by decide) (fun c_51_21 => ?_) (fun c_51_22 => ?_)
        · have c_51_21 : ¬ ((nI (sAh z (layF z wy) ir iw true)) : Int32) = pl := c_51_21
          refine lv_iconst (v := nI 0) hx hb dX5_bestAt_58 (by decide) ?_
          refine lv_istore (lv' := [(5, .int (nI 0)), (0, .ref (a 0)), (1, .int pl), (3, .int (nI ir)), (2, .int (itN iw (bsS z (layF z wy) pl ir) (itN ir (bsR z (layF z wy) pl) (-1)))), (4, .int (nI iw))]) hx hb dX5_bestAt_59 hl (by decide) rfl (fun ls hl => ?_)
          refine lv_iload hx hb dX5_bestAt_61 (lv_at hl 0 rfl) ?_
          refine kx_if_eq (tgt := 76) hx hb (by omega) dX5_bestAt_63 (by decide) (fun c_63_23 => ?_) (fun c => absurd c (by omega))
          refine lv_iload_n hx hb dX5_bestAt_76 rfl (lv_at hl 4 rfl) ?_
          refine lv_istore_n (lv' := [(2, .int (itN iw (bsS z (layF z wy) pl ir) (itN ir (bsR z (layF z wy) pl) (-1)))), (5, .int (nI 0)), (0, .ref (a 0)), (1, .int pl), (3, .int (nI ir)), (4, .int (nI iw))]) hx hb dX5_bestAt_77 rfl hl (by decide) rfl (fun ls hl => ?_)
          refine lv_iinc (v := nI (iw + 1)) (lv' := [(4, .int (nI (iw + 1))), (2, .int (itN iw (bsS z (layF z wy) pl ir) (itN ir (bsR z (layF z wy) pl) (-1)))), (5, .int (nI 0)), (0, .ref (a 0)), (1, .int pl), (3, .int (nI ir))]) hx hb dX5_bestAt_78 hl (k := 5) rfl (kx_inc 1) (by decide) rfl (fun ls hl => ?_)
          refine lv_goto (tgt := 21) hx hb dX5_bestAt_81 (by decide) ?_
          have e21_24 : (itN iw (bsS z (layF z wy) pl ir) (itN ir (bsR z (layF z wy) pl) (-1)) : Int32) = (itN (iw + 1) (bsS z (layF z wy) pl ir) (itN ir (bsR z (layF z wy) pl) (-1))) := by first | rfl | omega | (simp [bestI, bsR, bsS, itN_s, Int32.not_lt, Int32.not_le, c_15_3, Nat.not_le.mpr c_15_3, c_29_10, Nat.not_le.mpr c_29_10, c_39_16, c_51_21]; done) | (simp [bestI, bsR, bsS, itN_s, Int32.not_lt, Int32.not_le, c_15_3, Nat.not_le.mpr c_15_3, c_29_10, Nat.not_le.mpr c_29_10, c_39_16, c_51_21]; omega) | (revert c_15_3 c_29_10 c_39_16 c_51_21; simp +contextual [bestI, bsR, bsS, itN_s, Int32.not_lt, Int32.not_le]; done) | (revert c_15_3 c_29_10 c_39_16 c_51_21; simp +contextual [bestI, bsR, bsS, itN_s, Int32.not_lt, Int32.not_le]; omega)
          have e21_25 : (iw + 1 : Nat) = ((iw + 1)) := by first | rfl | omega | (simp [bestI, bsR, bsS, itN_s, Int32.not_lt, Int32.not_le, c_15_3, Nat.not_le.mpr c_15_3, c_29_10, Nat.not_le.mpr c_29_10, c_39_16, c_51_21]; done) | (simp [bestI, bsR, bsS, itN_s, Int32.not_lt, Int32.not_le, c_15_3, Nat.not_le.mpr c_15_3, c_29_10, Nat.not_le.mpr c_29_10, c_39_16, c_51_21]; omega) | (revert c_15_3 c_29_10 c_39_16 c_51_21; simp +contextual [bestI, bsR, bsS, itN_s, Int32.not_lt, Int32.not_le]; done) | (revert c_15_3 c_29_10 c_39_16 c_51_21; simp +contextual [bestI, bsR, bsS, itN_s, Int32.not_lt, Int32.not_le]; omega)
          have hl21_26 : lv_has ls 6 [(0, .ref (a 0)), (1, .int pl), (3, .int (nI ir)), (2, .int (itN (iw + 1) (bsS z (layF z wy) pl ir) (itN ir (bsR z (layF z wy) pl) (-1)))), (4, .int (nI (iw + 1)))] := lv_eqv (l1 := [(0, .ref (a 0)), (1, .int pl), (3, .int (nI ir)), (2, .int (itN iw (bsS z (layF z wy) pl ir) (itN ir (bsR z (layF z wy) pl) (-1)))), (4, .int (nI (iw + 1)))]) (lv_sub hl [3, 4, 5, 1, 0] rfl) (lv_ce rfl (lv_ce rfl (lv_ce rfl (lv_ce (congrArg Value.int e21_24) (lv_ce (congrArg (fun x => Value.int (nI x)) e21_25) rfl)))))
          exact ih21 _ _ _ (by omega) ⟨⟨hP, hD, hS⟩, hl21_26⟩
        · have c_51_22 : ((nI (sAh z (layF z wy) ir iw true)) : Int32) = pl := c_51_22
          refine lv_iconst (v := nI 1) hx hb dX5_bestAt_54 (by decide) ?_
          refine lv_goto (tgt := 59) hx hb dX5_bestAt_55 (by decide) ?_
          refine lv_istore (lv' := [(5, .int (nI 1)), (0, .ref (a 0)), (1, .int pl), (3, .int (nI ir)), (2, .int (itN iw (bsS z (layF z wy) pl ir) (itN ir (bsR z (layF z wy) pl) (-1)))), (4, .int (nI iw))]) hx hb dX5_bestAt_59 hl (by decide) rfl (fun ls hl => ?_)
          refine lv_iload hx hb dX5_bestAt_61 (lv_at hl 0 rfl) ?_
          refine kx_if_eq (tgt := 76) hx hb (by omega) dX5_bestAt_63 (by decide) (fun c => absurd c (by omega)) (fun c_63_27 => ?_)
          refine lv_bipush (v := nI 100) hx hb dX5_bestAt_66 (by decide) ?_
          refine lv_iload_n hx hb dX5_bestAt_68 rfl (lv_at hl 3 rfl) ?_
          refine kx_imul hx hb dX5_bestAt_69 ?_
          refine lv_iload hx hb dX5_bestAt_70 (lv_at hl 5 rfl) ?_
          refine kx_iadd hx hb dX5_bestAt_72 ?_
          refine lv_goto (tgt := 77) hx hb dX5_bestAt_73 (by decide) ?_
          refine lv_istore_n (lv' := [(2, .int (nI ((100 * ir) + iw))), (5, .int (nI 1)), (0, .ref (a 0)), (1, .int pl), (3, .int (nI ir)), (4, .int (nI iw))]) hx hb dX5_bestAt_77 rfl hl (by decide) rfl (fun ls hl => ?_)
          refine lv_iinc (v := nI (iw + 1)) (lv' := [(4, .int (nI (iw + 1))), (2, .int (nI ((100 * ir) + iw))), (5, .int (nI 1)), (0, .ref (a 0)), (1, .int pl), (3, .int (nI ir))]) hx hb dX5_bestAt_78 hl (k := 5) rfl (kx_inc 1) (by decide) rfl (fun ls hl => ?_)
          refine lv_goto (tgt := 21) hx hb dX5_bestAt_81 (by decide) ?_
          have e21_28 : (nI ((100 * ir) + iw) : Int32) = (itN (iw + 1) (bsS z (layF z wy) pl ir) (itN ir (bsR z (layF z wy) pl) (-1))) := by first | rfl | omega | (simp [bestI, bsR, bsS, itN_s, Int32.not_lt, Int32.not_le, c_15_3, Nat.not_le.mpr c_15_3, c_29_10, Nat.not_le.mpr c_29_10, c_39_16, c_51_22]; done) | (simp [bestI, bsR, bsS, itN_s, Int32.not_lt, Int32.not_le, c_15_3, Nat.not_le.mpr c_15_3, c_29_10, Nat.not_le.mpr c_29_10, c_39_16, c_51_22]; omega) | (revert c_15_3 c_29_10 c_39_16 c_51_22; simp +contextual [bestI, bsR, bsS, itN_s, Int32.not_lt, Int32.not_le]; done) | (revert c_15_3 c_29_10 c_39_16 c_51_22; simp +contextual [bestI, bsR, bsS, itN_s, Int32.not_lt, Int32.not_le]; omega)
          have e21_29 : (iw + 1 : Nat) = ((iw + 1)) := by first | rfl | omega | (simp [bestI, bsR, bsS, itN_s, Int32.not_lt, Int32.not_le, c_15_3, Nat.not_le.mpr c_15_3, c_29_10, Nat.not_le.mpr c_29_10, c_39_16, c_51_22]; done) | (simp [bestI, bsR, bsS, itN_s, Int32.not_lt, Int32.not_le, c_15_3, Nat.not_le.mpr c_15_3, c_29_10, Nat.not_le.mpr c_29_10, c_39_16, c_51_22]; omega) | (revert c_15_3 c_29_10 c_39_16 c_51_22; simp +contextual [bestI, bsR, bsS, itN_s, Int32.not_lt, Int32.not_le]; done) | (revert c_15_3 c_29_10 c_39_16 c_51_22; simp +contextual [bestI, bsR, bsS, itN_s, Int32.not_lt, Int32.not_le]; omega)
          have hl21_30 : lv_has ls 6 [(0, .ref (a 0)), (1, .int pl), (3, .int (nI ir)), (2, .int (itN (iw + 1) (bsS z (layF z wy) pl ir) (itN ir (bsR z (layF z wy) pl) (-1)))), (4, .int (nI (iw + 1)))] := lv_eqv (l1 := [(0, .ref (a 0)), (1, .int pl), (3, .int (nI ir)), (2, .int (nI ((100 * ir) + iw))), (4, .int (nI (iw + 1)))]) (lv_sub hl [3, 4, 5, 1, 0] rfl) (lv_ce rfl (lv_ce rfl (lv_ce rfl (lv_ce (congrArg Value.int e21_28) (lv_ce (congrArg (fun x => Value.int (nI x)) e21_29) rfl)))))
          exact ih21 _ _ _ (by omega) ⟨⟨hP, hD, hS⟩, hl21_30⟩
set_option maxHeartbeats 4000000 in
set_option maxRecDepth 100000 in
theorem c_X5_seatNow (l : Launch) (D : va_G) (cI cC cH cL : ClassId) (a : Nat → Nat) (z zh tx pa wy : ZZ) (st le th rd nu pt : Int32) (za : Int64) (r0 : Nat) (s0 : Nat) (wh : Nat) (hw : WF z) (hr : r0 < nR z) (hs : s0 < 12) (hwh : wh < 7) : Met l yX5_seatNow wsX5_seatNow ({ frames := 7, cells := 0, slots := 0, locals := 167 }) (kw [.ref (a 0), .int (nI r0), .int (nI s0), .int (nI wh)] D (MW a cI z st zh le tx th pa rd nu pt wy za) (kT cI cC cH cL)) (kq D (MW a cI z st zh le tx th pa rd nu pt wy za) (MW a cI z st zh le tx th pa rd nu pt (seatWy z wy wh) za) (.returned (some (.int (seatI z wy r0 s0 wh))))) 0 0 (kA (MW a cI z st zh le tx th pa rd nu pt wy za)) := by
  refine Met.ofW (cc := cX5_seatNow) (maxL := 4) (ret := (some .int)) (by decide) rfl ?_
  intro p e s m args below meth c s₁ B hml hv
  obtain ⟨rfl, hP, hK, hD0⟩ := hv
  have hx := B.exec
  have hb := B.bytes
  have hrt := B.returns
  have hts := atoms_spec (ws := wsX5_seatNow) B.pre
  have hown : s.vm.findClass RX5 = some m.cls := findClass_of_methodNamed B.named
  have hlocks := B.notSynchronized
  have hl := lv_entry ([.ref (a 0), .int (nI r0), .int (nI s0), .int (nI wh)]) (n := 4) (Nat.le_of_ble_eq_true rfl)
  rw [lg_entry_eq]
  generalize (lg_sl ([.ref (a 0), .int (nI r0), .int (nI s0), .int (nI wh)]) ++ List.replicate (4 - (lg_sl ([.ref (a 0), .int (nI r0), .int (nI s0), .int (nI wh)])).length) Slot.unset).toArray = ls at hl ⊢
  have hl : lv_has ls 4 [(0, .ref (a 0)), (1, .int (nI r0)), (2, .int (nI s0)), (3, .int (nI wh))] := hl
  have hD := kA_self hD0
  obtain ⟨w0, hw0⟩ : ∃ w : va_W, w = MW a cI z st zh le tx th pa rd nu pt wy za := ⟨_, rfl⟩
  have hD : va_D (kA w0) (MW a cI z st zh le tx th pa rd nu pt wy za) := by rw [hw0]; exact hD
  have hS : va_S (kA w0) s.heap s.heap [] := va_S.rf
  rw [show kA (MW a cI z st zh le tx th pa rd nu pt wy za) = kA w0 from by rw [hw0], show kq D (MW a cI z st zh le tx th pa rd nu pt wy za) = kq D w0 from by rw [hw0]]
  have hP : va_P D vwCl (MW a cI z st zh le tx th pa rd nu pt wy za) s.heap := hP
  have hR10 := wf_R10 hw
  have hC4 := wf_C4 hw
  rcases (show wh = 0 ∨ wh = 1 ∨ wh = 2 ∨ wh = 3 ∨ wh = 4 ∨ wh = 5 ∨ wh = 6 by omega) with rfl | rfl | rfl | rfl | rfl | rfl | rfl
  · refine lv_iload_n hx hb dX5_seatNow_0 rfl (lv_at hl 3 rfl) ?_
    refine lv_tableIn (tgt := 40) (off := 39) hx hb dX5_seatNow_1 (by decide) (by decide) (by decide) (by decide) ?_
    refine lv_aload_n hx hb dX5_seatNow_40 rfl (lv_at hl 0 rfl) ?_
    refine lv_iload_n hx hb dX5_seatNow_41 rfl (lv_at hl 1 rfl) ?_
    refine lv_iload_n hx hb dX5_seatNow_42 rfl (lv_at hl 2 rfl) ?_
    refine kr_V (As := [.int (nI r0), .int (nI s0)]) (rest := []) (C := RX5) (own := RX5) ⟨hx, hb, hml, hown, hts⟩ (c_X5_sideOf l D cI cC cH cL a z zh tx pa wy st le th rd nu pt za r0 s0 (by first | assumption | omega) (by first | assumption | omega)) (cwV 2 hts gX5_seatNow_X5_sideOf rfl rfl rfl k_X5_sideOf ⟨Nat.le_of_ble_eq_true rfl, Nat.le_of_ble_eq_true rfl⟩) hP hK (va_recv (q := (RX5, TX5, 12)) hK hP (ci := 5) (q0 := 0) rfl rfl) rfl hl.1 rfl (Nat.le_of_ble_eq_true rfl) dX5_seatNow_43 ⟨Nat.le_of_ble_eq_true rfl, Nat.le_of_ble_eq_true rfl⟩ ?_
    have e_0 : (side z r0 s0 : Int32) = (seatI z wy r0 s0 0) := by first | rfl | omega | (simp [seatI, b2, seatWy, Int32.not_lt, Int32.not_le]; done) | (simp [seatI, b2, seatWy, Int32.not_lt, Int32.not_le]; omega)
    have ec_wy_1 : (wy : ZZ) = (seatWy z wy 0) := by first | rfl | omega | (simp [seatI, b2, seatWy, Int32.not_lt, Int32.not_le]; done) | (simp [seatI, b2, seatWy, Int32.not_lt, Int32.not_le]; omega)
    have ew_2 : (MW a cI z st zh le tx th pa rd nu pt wy za : va_W) = (MW a cI z st zh le tx th pa rd nu pt (seatWy z wy 0) za) := mw_c rfl rfl rfl rfl rfl rfl rfl rfl rfl rfl ec_wy_1 rfl
    rw [ew_2] at hP hD
    subst hw0
    exact kq_iret hx hb hrt hlocks e_0 hP hD hS dX5_seatNow_46
  · refine lv_iload_n hx hb dX5_seatNow_0 rfl (lv_at hl 3 rfl) ?_
    refine lv_tableIn (tgt := 47) (off := 46) hx hb dX5_seatNow_1 (by decide) (by decide) (by decide) (by decide) ?_
    refine lv_aload_n hx hb dX5_seatNow_47 rfl (lv_at hl 0 rfl) ?_
    refine lv_iload_n hx hb dX5_seatNow_48 rfl (lv_at hl 1 rfl) ?_
    refine lv_iload_n hx hb dX5_seatNow_49 rfl (lv_at hl 2 rfl) ?_
    refine kr_V (As := [.int (nI r0), .int (nI s0)]) (rest := []) (C := RX5) (own := RX5) ⟨hx, hb, hml, hown, hts⟩ (c_X5_isTaken l D cI cC cH cL a z zh tx pa wy st le th rd nu pt za r0 s0 (by first | assumption | omega)) (cwV 2 hts gX5_seatNow_X5_isTaken rfl rfl rfl k_X5_isTaken ⟨Nat.le_of_ble_eq_true rfl, Nat.le_of_ble_eq_true rfl⟩) hP hK (va_recv (q := (RX5, TX5, 12)) hK hP (ci := 5) (q0 := 0) rfl rfl) rfl hl.1 rfl (Nat.le_of_ble_eq_true rfl) dX5_seatNow_50 ⟨Nat.le_of_ble_eq_true rfl, Nat.le_of_ble_eq_true rfl⟩ ?_
    refine kx_if_eqb (tgt := 60) hx hb dX5_seatNow_53 (by decide) (fun c_53_3 => ?_) (fun c_53_4 => ?_)
    · refine lv_iconst (v := nI 0) hx hb dX5_seatNow_60 (by decide) ?_
      have e_5 : (nI 0 : Int32) = (seatI z wy r0 s0 1) := by first | rfl | omega | (simp [seatI, b2, seatWy, Int32.not_lt, Int32.not_le, c_53_3]; done) | (simp [seatI, b2, seatWy, Int32.not_lt, Int32.not_le, c_53_3]; omega) | (revert c_53_3; simp +contextual [seatI, b2, seatWy, Int32.not_lt, Int32.not_le]; done) | (revert c_53_3; simp +contextual [seatI, b2, seatWy, Int32.not_lt, Int32.not_le]; omega)
      have ec_wy_6 : (wy : ZZ) = (seatWy z wy 1) := by first | rfl | omega | (simp [seatI, b2, seatWy, Int32.not_lt, Int32.not_le, c_53_3]; done) | (simp [seatI, b2, seatWy, Int32.not_lt, Int32.not_le, c_53_3]; omega) | (revert c_53_3; simp +contextual [seatI, b2, seatWy, Int32.not_lt, Int32.not_le]; done) | (revert c_53_3; simp +contextual [seatI, b2, seatWy, Int32.not_lt, Int32.not_le]; omega)
      have ew_7 : (MW a cI z st zh le tx th pa rd nu pt wy za : va_W) = (MW a cI z st zh le tx th pa rd nu pt (seatWy z wy 1) za) := mw_c rfl rfl rfl rfl rfl rfl rfl rfl rfl rfl ec_wy_6 rfl
      rw [ew_7] at hP hD
      subst hw0
      exact kq_iret hx hb hrt hlocks e_5 hP hD hS dX5_seatNow_61
    · refine lv_iconst (v := nI 1) hx hb dX5_seatNow_56 (by decide) ?_
      refine lv_goto (tgt := 61) hx hb dX5_seatNow_57 (by decide) ?_
      have e_8 : (nI 1 : Int32) = (seatI z wy r0 s0 1) := by first | rfl | omega | (simp [seatI, b2, seatWy, Int32.not_lt, Int32.not_le, c_53_4]; done) | (simp [seatI, b2, seatWy, Int32.not_lt, Int32.not_le, c_53_4]; omega) | (revert c_53_4; simp +contextual [seatI, b2, seatWy, Int32.not_lt, Int32.not_le]; done) | (revert c_53_4; simp +contextual [seatI, b2, seatWy, Int32.not_lt, Int32.not_le]; omega)
      have ec_wy_9 : (wy : ZZ) = (seatWy z wy 1) := by first | rfl | omega | (simp [seatI, b2, seatWy, Int32.not_lt, Int32.not_le, c_53_4]; done) | (simp [seatI, b2, seatWy, Int32.not_lt, Int32.not_le, c_53_4]; omega) | (revert c_53_4; simp +contextual [seatI, b2, seatWy, Int32.not_lt, Int32.not_le]; done) | (revert c_53_4; simp +contextual [seatI, b2, seatWy, Int32.not_lt, Int32.not_le]; omega)
      have ew_10 : (MW a cI z st zh le tx th pa rd nu pt wy za : va_W) = (MW a cI z st zh le tx th pa rd nu pt (seatWy z wy 1) za) := mw_c rfl rfl rfl rfl rfl rfl rfl rfl rfl rfl ec_wy_9 rfl
      rw [ew_10] at hP hD
      subst hw0
      exact kq_iret hx hb hrt hlocks e_8 hP hD hS dX5_seatNow_61
  · refine lv_iload_n hx hb dX5_seatNow_0 rfl (lv_at hl 3 rfl) ?_
    refine lv_tableIn (tgt := 62) (off := 61) hx hb dX5_seatNow_1 (by decide) (by decide) (by decide) (by decide) ?_
    refine lv_aload_n hx hb dX5_seatNow_62 rfl (lv_at hl 0 rfl) ?_
    refine lv_iload_n hx hb dX5_seatNow_63 rfl (lv_at hl 1 rfl) ?_
    refine lv_iload_n hx hb dX5_seatNow_64 rfl (lv_at hl 2 rfl) ?_
    refine kr_V (As := [.int (nI r0), .int (nI s0)]) (rest := []) (C := RX5) (own := RX5) ⟨hx, hb, hml, hown, hts⟩ (c_X5_peopleInWay l D cI cC cH cL a z zh tx pa wy st le th rd nu pt za r0 s0 (by first | assumption | omega) (by first | assumption | omega)) (cwV 2 hts gX5_seatNow_X5_peopleInWay rfl rfl rfl k_X5_peopleInWay ⟨Nat.le_of_ble_eq_true rfl, Nat.le_of_ble_eq_true rfl⟩) hP hK (va_recv (q := (RX5, TX5, 12)) hK hP (ci := 5) (q0 := 0) rfl rfl) rfl hl.1 rfl (Nat.le_of_ble_eq_true rfl) dX5_seatNow_65 ⟨Nat.le_of_ble_eq_true rfl, Nat.le_of_ble_eq_true rfl⟩ ?_
    have e_11 : (nI (people z r0 s0) : Int32) = (seatI z wy r0 s0 2) := by first | rfl | omega | (simp [seatI, b2, seatWy, Int32.not_lt, Int32.not_le]; done) | (simp [seatI, b2, seatWy, Int32.not_lt, Int32.not_le]; omega)
    have ec_wy_12 : (wy : ZZ) = (seatWy z wy 2) := by first | rfl | omega | (simp [seatI, b2, seatWy, Int32.not_lt, Int32.not_le]; done) | (simp [seatI, b2, seatWy, Int32.not_lt, Int32.not_le]; omega)
    have ew_13 : (MW a cI z st zh le tx th pa rd nu pt wy za : va_W) = (MW a cI z st zh le tx th pa rd nu pt (seatWy z wy 2) za) := mw_c rfl rfl rfl rfl rfl rfl rfl rfl rfl rfl ec_wy_12 rfl
    rw [ew_13] at hP hD
    subst hw0
    exact kq_iret hx hb hrt hlocks e_11 hP hD hS dX5_seatNow_68
  · refine lv_iload_n hx hb dX5_seatNow_0 rfl (lv_at hl 3 rfl) ?_
    refine lv_tableIn (tgt := 69) (off := 68) hx hb dX5_seatNow_1 (by decide) (by decide) (by decide) (by decide) ?_
    refine lv_aload_n hx hb dX5_seatNow_69 rfl (lv_at hl 0 rfl) ?_
    refine lv_iload_n hx hb dX5_seatNow_70 rfl (lv_at hl 1 rfl) ?_
    refine lv_iload_n hx hb dX5_seatNow_71 rfl (lv_at hl 2 rfl) ?_
    refine lv_iconst (v := (-1)) hx hb dX5_seatNow_72 (by decide) ?_
    refine kr_V (As := [.int (nI r0), .int (nI s0), .int (-1)]) (rest := []) (C := RX5) (own := RX5) ⟨hx, hb, hml, hown, hts⟩ (c_X5_columnsInWay l D cI cC cH cL a z zh tx pa wy st le th rd nu pt za r0 s0 (-1) (by first | assumption | omega) (by first | assumption | omega)) (cwV 3 hts gX5_seatNow_X5_columnsInWay rfl rfl rfl k_X5_columnsInWay ⟨Nat.le_of_ble_eq_true rfl, Nat.le_of_ble_eq_true rfl⟩) hP hK (va_recv (q := (RX5, TX5, 12)) hK hP (ci := 5) (q0 := 0) rfl rfl) rfl hl.1 rfl (Nat.le_of_ble_eq_true rfl) dX5_seatNow_73 ⟨Nat.le_of_ble_eq_true rfl, Nat.le_of_ble_eq_true rfl⟩ ?_
    have e_14 : (nI (colsW z r0 s0 (-1)) : Int32) = (seatI z wy r0 s0 3) := by first | rfl | omega | (simp [seatI, b2, seatWy, Int32.not_lt, Int32.not_le]; done) | (simp [seatI, b2, seatWy, Int32.not_lt, Int32.not_le]; omega)
    have ec_wy_15 : (wy : ZZ) = (seatWy z wy 3) := by first | rfl | omega | (simp [seatI, b2, seatWy, Int32.not_lt, Int32.not_le]; done) | (simp [seatI, b2, seatWy, Int32.not_lt, Int32.not_le]; omega)
    have ew_16 : (MW a cI z st zh le tx th pa rd nu pt wy za : va_W) = (MW a cI z st zh le tx th pa rd nu pt (seatWy z wy 3) za) := mw_c rfl rfl rfl rfl rfl rfl rfl rfl rfl rfl ec_wy_15 rfl
    rw [ew_16] at hP hD
    subst hw0
    exact kq_iret hx hb hrt hlocks e_14 hP hD hS dX5_seatNow_76
  · refine lv_iload_n hx hb dX5_seatNow_0 rfl (lv_at hl 3 rfl) ?_
    refine lv_tableIn (tgt := 77) (off := 76) hx hb dX5_seatNow_1 (by decide) (by decide) (by decide) (by decide) ?_
    refine lv_aload_n hx hb dX5_seatNow_77 rfl (lv_at hl 0 rfl) ?_
    refine lv_iload_n hx hb dX5_seatNow_78 rfl (lv_at hl 1 rfl) ?_
    refine lv_iload_n hx hb dX5_seatNow_79 rfl (lv_at hl 2 rfl) ?_
    refine kr_V (As := [.int (nI r0), .int (nI s0)]) (rest := []) (C := RX5) (own := RX5) ⟨hx, hb, hml, hown, hts⟩ (c_X5_sees l D cI cC cH cL a z zh tx pa wy st le th rd nu pt za r0 s0 (by first | assumption | omega) (by first | assumption | omega)) (cwV 2 hts gX5_seatNow_X5_sees rfl rfl rfl k_X5_sees ⟨Nat.le_of_ble_eq_true rfl, Nat.le_of_ble_eq_true rfl⟩) hP hK (va_recv (q := (RX5, TX5, 12)) hK hP (ci := 5) (q0 := 0) rfl rfl) rfl hl.1 rfl (Nat.le_of_ble_eq_true rfl) dX5_seatNow_80 ⟨Nat.le_of_ble_eq_true rfl, Nat.le_of_ble_eq_true rfl⟩ ?_
    refine kx_if_eqb (tgt := 90) hx hb dX5_seatNow_83 (by decide) (fun c_83_17 => ?_) (fun c_83_18 => ?_)
    · refine lv_iconst (v := nI 0) hx hb dX5_seatNow_90 (by decide) ?_
      have e_19 : (nI 0 : Int32) = (seatI z wy r0 s0 4) := by first | rfl | omega | (simp [seatI, b2, seatWy, Int32.not_lt, Int32.not_le, c_83_17]; done) | (simp [seatI, b2, seatWy, Int32.not_lt, Int32.not_le, c_83_17]; omega) | (revert c_83_17; simp +contextual [seatI, b2, seatWy, Int32.not_lt, Int32.not_le]; done) | (revert c_83_17; simp +contextual [seatI, b2, seatWy, Int32.not_lt, Int32.not_le]; omega)
      have ec_wy_20 : (wy : ZZ) = (seatWy z wy 4) := by first | rfl | omega | (simp [seatI, b2, seatWy, Int32.not_lt, Int32.not_le, c_83_17]; done) | (simp [seatI, b2, seatWy, Int32.not_lt, Int32.not_le, c_83_17]; omega) | (revert c_83_17; simp +contextual [seatI, b2, seatWy, Int32.not_lt, Int32.not_le]; done) | (revert c_83_17; simp +contextual [seatI, b2, seatWy, Int32.not_lt, Int32.not_le]; omega)
      have ew_21 : (MW a cI z st zh le tx th pa rd nu pt wy za : va_W) = (MW a cI z st zh le tx th pa rd nu pt (seatWy z wy 4) za) := mw_c rfl rfl rfl rfl rfl rfl rfl rfl rfl rfl ec_wy_20 rfl
      rw [ew_21] at hP hD
      subst hw0
      exact kq_iret hx hb hrt hlocks e_19 hP hD hS dX5_seatNow_91
    · refine lv_iconst (v := nI 1) hx hb dX5_seatNow_86 (by decide) ?_
      refine lv_goto (tgt := 91) hx hb dX5_seatNow_87 (by decide) ?_
      have e_22 : (nI 1 : Int32) = (seatI z wy r0 s0 4) := by first | rfl | omega | (simp [seatI, b2, seatWy, Int32.not_lt, Int32.not_le, c_83_18]; done) | (simp [seatI, b2, seatWy, Int32.not_lt, Int32.not_le, c_83_18]; omega) | (revert c_83_18; simp +contextual [seatI, b2, seatWy, Int32.not_lt, Int32.not_le]; done) | (revert c_83_18; simp +contextual [seatI, b2, seatWy, Int32.not_lt, Int32.not_le]; omega)
      have ec_wy_23 : (wy : ZZ) = (seatWy z wy 4) := by first | rfl | omega | (simp [seatI, b2, seatWy, Int32.not_lt, Int32.not_le, c_83_18]; done) | (simp [seatI, b2, seatWy, Int32.not_lt, Int32.not_le, c_83_18]; omega) | (revert c_83_18; simp +contextual [seatI, b2, seatWy, Int32.not_lt, Int32.not_le]; done) | (revert c_83_18; simp +contextual [seatI, b2, seatWy, Int32.not_lt, Int32.not_le]; omega)
      have ew_24 : (MW a cI z st zh le tx th pa rd nu pt wy za : va_W) = (MW a cI z st zh le tx th pa rd nu pt (seatWy z wy 4) za) := mw_c rfl rfl rfl rfl rfl rfl rfl rfl rfl rfl ec_wy_23 rfl
      rw [ew_24] at hP hD
      subst hw0
      exact kq_iret hx hb hrt hlocks e_22 hP hD hS dX5_seatNow_91
  · refine lv_iload_n hx hb dX5_seatNow_0 rfl (lv_at hl 3 rfl) ?_
    refine lv_tableIn (tgt := 92) (off := 91) hx hb dX5_seatNow_1 (by decide) (by decide) (by decide) (by decide) ?_
    refine lv_aload_n hx hb dX5_seatNow_92 rfl (lv_at hl 0 rfl) ?_
    refine lv_iload_n hx hb dX5_seatNow_93 rfl (lv_at hl 1 rfl) ?_
    refine lv_iload_n hx hb dX5_seatNow_94 rfl (lv_at hl 2 rfl) ?_
    refine lv_iconst (v := nI 0) hx hb dX5_seatNow_95 (by decide) ?_
    refine kr_V (As := [.int (nI r0), .int (nI s0), .int (bI false)]) (rest := []) (C := RX5) (own := RX5) ⟨hx, hb, hml, hown, hts⟩ (c_X5_blocked l D cI cC cH cL a z zh tx pa wy st le th rd nu pt za r0 s0 false (by first | assumption | omega) (by first | assumption | omega)) (cwV 3 hts gX5_seatNow_X5_blocked rfl rfl rfl k_X5_blocked ⟨Nat.le_of_ble_eq_true rfl, Nat.le_of_ble_eq_true rfl⟩) hP hK (va_recv (q := (RX5, TX5, 12)) hK hP (ci := 5) (q0 := 0) rfl rfl) rfl hl.1 rfl (Nat.le_of_ble_eq_true rfl) dX5_seatNow_96 ⟨Nat.le_of_ble_eq_true rfl, Nat.le_of_ble_eq_true rfl⟩ ?_
    have e_25 : (nI (blkd z r0 s0 false) : Int32) = (seatI z wy r0 s0 5) := by first | rfl | omega | (simp [seatI, b2, seatWy, Int32.not_lt, Int32.not_le]; done) | (simp [seatI, b2, seatWy, Int32.not_lt, Int32.not_le]; omega)
    have ec_wy_26 : (wy : ZZ) = (seatWy z wy 5) := by first | rfl | omega | (simp [seatI, b2, seatWy, Int32.not_lt, Int32.not_le]; done) | (simp [seatI, b2, seatWy, Int32.not_lt, Int32.not_le]; omega)
    have ew_27 : (MW a cI z st zh le tx th pa rd nu pt wy za : va_W) = (MW a cI z st zh le tx th pa rd nu pt (seatWy z wy 5) za) := mw_c rfl rfl rfl rfl rfl rfl rfl rfl rfl rfl ec_wy_26 rfl
    rw [ew_27] at hP hD
    subst hw0
    exact kq_iret hx hb hrt hlocks e_25 hP hD hS dX5_seatNow_99
  · refine lv_iload_n hx hb dX5_seatNow_0 rfl (lv_at hl 3 rfl) ?_
    refine lv_tableOut (tgt := 100) hx hb dX5_seatNow_1 (by decide) (by decide) ?_
    refine lv_aload_n hx hb dX5_seatNow_100 rfl (lv_at hl 0 rfl) ?_
    refine kw_V (As := []) (rest := []) (C := RX5) (own := RX5) ⟨hx, hb, hml, hown, hts⟩ (c_X5_layWays l D cI cC cH cL a z zh tx pa wy st le th rd nu pt za  (by first | assumption | omega)) (cwV 0 hts gX5_seatNow_X5_layWays rfl rfl rfl k_X5_layWays ⟨Nat.le_of_ble_eq_true rfl, Nat.le_of_ble_eq_true rfl⟩) hP hD hK hS [0, 1, 2, 3, 4, 5] [] rfl rfl (wr := []) rfl (by decide) (by decide) (by decide) (va_recv (q := (RX5, TX5, 12)) hK hP (ci := 5) (q0 := 0) rfl rfl) rfl hl.1 rfl (Nat.le_of_ble_eq_true rfl) dX5_seatNow_101 ⟨Nat.le_of_ble_eq_true rfl, Nat.le_of_ble_eq_true rfl⟩ (fun H locs hP hD hS => ?_)
    have hP : va_P D vwCl (MW a cI z st zh le tx th pa rd nu pt (layF z wy) za) H := hP
    have hD : va_D (kA w0) (MW a cI z st zh le tx th pa rd nu pt (layF z wy) za) := hD
    refine lv_aload_n hx hb dX5_seatNow_104 rfl (lv_at hl 0 rfl) ?_
    refine lv_iload_n hx hb dX5_seatNow_105 rfl (lv_at hl 1 rfl) ?_
    refine lv_iload_n hx hb dX5_seatNow_106 rfl (lv_at hl 2 rfl) ?_
    refine lv_iconst (v := nI 0) hx hb dX5_seatNow_107 (by decide) ?_
    refine kr_V (As := [.int (nI r0), .int (nI s0), .int (bI false)]) (rest := []) (C := RX5) (own := RX5) ⟨hx, hb, hml, hown, hts⟩ (c_X5_seatsAhead l D cI cC cH cL a z zh tx pa (layF z wy) st le th rd nu pt za r0 s0 false (by first | assumption | omega) (by first | assumption | omega) (by first | assumption | omega)) (cwV 3 hts gX5_seatNow_X5_seatsAhead rfl rfl rfl k_X5_seatsAhead ⟨Nat.le_of_ble_eq_true rfl, Nat.le_of_ble_eq_true rfl⟩) hP hK (va_recv (q := (RX5, TX5, 12)) hK hP (ci := 5) (q0 := 0) rfl rfl) rfl hl.1 rfl (Nat.le_of_ble_eq_true rfl) dX5_seatNow_108 ⟨Nat.le_of_ble_eq_true rfl, Nat.le_of_ble_eq_true rfl⟩ ?_
    have e_28 : (nI (sAh z (layF z wy) r0 s0 false) : Int32) = (seatI z wy r0 s0 6) := by first | rfl | omega | (simp [seatI, b2, seatWy, Int32.not_lt, Int32.not_le]; done) | (simp [seatI, b2, seatWy, Int32.not_lt, Int32.not_le]; omega)
    have ec_wy_29 : ((layF z wy) : ZZ) = (seatWy z wy 6) := by first | rfl | omega | (simp [seatI, b2, seatWy, Int32.not_lt, Int32.not_le]; done) | (simp [seatI, b2, seatWy, Int32.not_lt, Int32.not_le]; omega)
    have ew_30 : (MW a cI z st zh le tx th pa rd nu pt (layF z wy) za : va_W) = (MW a cI z st zh le tx th pa rd nu pt (seatWy z wy 6) za) := mw_c rfl rfl rfl rfl rfl rfl rfl rfl rfl rfl ec_wy_29 rfl
    rw [ew_30] at hP hD
    subst hw0
    exact kq_iret hx hb hrt hlocks e_28 hP hD hS dX5_seatNow_111
set_option maxRecDepth 20000 in
theorem iX5_counted_5 : ∀ w ∈ wsX50, w ∈ wsX5_counted := by decide +kernel
set_option maxHeartbeats 4000000 in
set_option maxRecDepth 100000 in
theorem c_X5_counted (l : Launch) (D : va_G) (cI cC cH cL : ClassId) (a : Nat → Nat) (z zh tx pa wy : ZZ) (ns nl : Nat) (th rd nu pt : Int32) (za : Int64) (wh : Nat) (hw : WF z) (hwh : wh < 9) : Met l yX5_counted wsX5_counted ({ frames := 8, cells := 0, slots := 0, locals := 187 }) (kp [.ref (a 0), .int (nI wh)] D (MW a cI z (nI ns) zh (nI nl) tx th pa rd nu pt wy za) (kT cI cC cH cL)) (kr (.returned (some (.int (countI z ns wh))))) 0 0 (fun _ => False) := by
  refine Met.ofW (cc := cX5_counted) (maxL := 2) (ret := (some .int)) (by decide) rfl ?_
  intro p e s m args below meth c s₁ B hml hv
  obtain ⟨rfl, hP, hK⟩ := hv
  have hx := B.exec
  have hb := B.bytes
  have hrt := B.returns
  have hts := atoms_spec (ws := wsX5_counted) B.pre
  have hown : s.vm.findClass RX5 = some m.cls := findClass_of_methodNamed B.named
  have hlocks := B.notSynchronized
  have hl := lv_entry ([.ref (a 0), .int (nI wh)]) (n := 2) (Nat.le_of_ble_eq_true rfl)
  rw [lg_entry_eq]
  generalize (lg_sl ([.ref (a 0), .int (nI wh)]) ++ List.replicate (2 - (lg_sl ([.ref (a 0), .int (nI wh)])).length) Slot.unset).toArray = ls at hl ⊢
  have hl : lv_has ls 2 [(0, .ref (a 0)), (1, .int (nI wh))] := hl
  have hR10 := wf_R10 hw
  have hC4 := wf_C4 hw
  rcases (show wh = 0 ∨ wh = 1 ∨ wh = 2 ∨ wh = 3 ∨ wh = 4 ∨ wh = 5 ∨ wh = 6 ∨ wh = 7 ∨ wh = 8 by omega) with rfl | rfl | rfl | rfl | rfl | rfl | rfl | rfl | rfl
  · refine lv_iload_n hx hb dX5_counted_0 rfl (lv_at hl 1 rfl) ?_
    refine lv_tableIn (tgt := 48) (off := 47) hx hb dX5_counted_1 (by decide) (by decide) (by decide) (by decide) ?_
    refine lv_aload_n hx hb dX5_counted_48 rfl (lv_at hl 0 rfl) ?_
    refine va_get (D := D) (ci := 5) (v := .ref (a 1)) (C := RX5) (T := TX5) (N := 12) hx hb hts iX5_counted_5 hown hK hP 0 rfl rfl 0 (by decide) (hts (.fieldLink RX5 7 "HallSightsModel" "z" "[I") (List.mem_of_getElem? (i := 1) rfl)) (fun _ h9 => h9) rfl dX5_counted_49 ?_
    refine lv_iconst (v := nI 3) hx hb dX5_counted_52 (by decide) ?_
    refine lv_iload_n hx hb dX5_counted_53 rfl (lv_at hl 1 rfl) ?_
    refine kx_iadd hx hb dX5_counted_54 ?_
    refine kx_iald hx hb hK hP 1 0 rfl rfl (by omega) (by decide) dX5_counted_55 ?_
    refine kx_top (wf_R hw) ?_
    have e_0 : (nI (nR z) : Int32) = (countI z ns 0) := by first | rfl | omega | (simp [countI, Int32.not_lt, Int32.not_le]; done) | (simp [countI, Int32.not_lt, Int32.not_le]; omega)
    exact kr_iret hx hb hrt hlocks e_0 rfl dX5_counted_56
  · refine lv_iload_n hx hb dX5_counted_0 rfl (lv_at hl 1 rfl) ?_
    refine lv_tableIn (tgt := 48) (off := 47) hx hb dX5_counted_1 (by decide) (by decide) (by decide) (by decide) ?_
    refine lv_aload_n hx hb dX5_counted_48 rfl (lv_at hl 0 rfl) ?_
    refine va_get (D := D) (ci := 5) (v := .ref (a 1)) (C := RX5) (T := TX5) (N := 12) hx hb hts iX5_counted_5 hown hK hP 0 rfl rfl 0 (by decide) (hts (.fieldLink RX5 7 "HallSightsModel" "z" "[I") (List.mem_of_getElem? (i := 1) rfl)) (fun _ h9 => h9) rfl dX5_counted_49 ?_
    refine lv_iconst (v := nI 3) hx hb dX5_counted_52 (by decide) ?_
    refine lv_iload_n hx hb dX5_counted_53 rfl (lv_at hl 1 rfl) ?_
    refine kx_iadd hx hb dX5_counted_54 ?_
    refine kx_iald hx hb hK hP 1 0 rfl rfl (by omega) (by decide) dX5_counted_55 ?_
    refine kx_top (wf_C hw) ?_
    have e_1 : (nI (nC z) : Int32) = (countI z ns 1) := by first | rfl | omega | (simp [countI, Int32.not_lt, Int32.not_le]; done) | (simp [countI, Int32.not_lt, Int32.not_le]; omega)
    exact kr_iret hx hb hrt hlocks e_1 rfl dX5_counted_56
  · refine lv_iload_n hx hb dX5_counted_0 rfl (lv_at hl 1 rfl) ?_
    refine lv_tableIn (tgt := 57) (off := 56) hx hb dX5_counted_1 (by decide) (by decide) (by decide) (by decide) ?_
    refine lv_aload_n hx hb dX5_counted_57 rfl (lv_at hl 0 rfl) ?_
    refine kr_V (As := []) (rest := []) (C := RX5) (own := RX5) ⟨hx, hb, hml, hown, hts⟩ (c_X5_allSeats l D cI cC cH cL a z zh tx pa wy (nI ns) (nI nl) th rd nu pt za  (by first | assumption | omega)) (cwV 0 hts gX5_counted_X5_allSeats rfl rfl rfl k_X5_allSeats ⟨Nat.le_of_ble_eq_true rfl, Nat.le_of_ble_eq_true rfl⟩) hP hK (va_recv (q := (RX5, TX5, 12)) hK hP (ci := 5) (q0 := 0) rfl rfl) rfl hl.1 rfl (Nat.le_of_ble_eq_true rfl) dX5_counted_58 ⟨Nat.le_of_ble_eq_true rfl, Nat.le_of_ble_eq_true rfl⟩ ?_
    have e_2 : (nI (seatsAll z) : Int32) = (countI z ns 2) := by first | rfl | omega | (simp [countI, Int32.not_lt, Int32.not_le]; done) | (simp [countI, Int32.not_lt, Int32.not_le]; omega)
    exact kr_iret hx hb hrt hlocks e_2 rfl dX5_counted_61
  · refine lv_iload_n hx hb dX5_counted_0 rfl (lv_at hl 1 rfl) ?_
    refine lv_tableIn (tgt := 62) (off := 61) hx hb dX5_counted_1 (by decide) (by decide) (by decide) (by decide) ?_
    refine lv_aload_n hx hb dX5_counted_62 rfl (lv_at hl 0 rfl) ?_
    refine kr_V (As := []) (rest := []) (C := RX5) (own := RX5) ⟨hx, hb, hml, hown, hts⟩ (c_X5_allTaken l D cI cC cH cL a z zh tx pa wy (nI ns) (nI nl) th rd nu pt za  (by first | assumption | omega)) (cwV 0 hts gX5_counted_X5_allTaken rfl rfl rfl k_X5_allTaken ⟨Nat.le_of_ble_eq_true rfl, Nat.le_of_ble_eq_true rfl⟩) hP hK (va_recv (q := (RX5, TX5, 12)) hK hP (ci := 5) (q0 := 0) rfl rfl) rfl hl.1 rfl (Nat.le_of_ble_eq_true rfl) dX5_counted_63 ⟨Nat.le_of_ble_eq_true rfl, Nat.le_of_ble_eq_true rfl⟩ ?_
    have e_3 : (nI (takenAll z) : Int32) = (countI z ns 3) := by first | rfl | omega | (simp [countI, Int32.not_lt, Int32.not_le]; done) | (simp [countI, Int32.not_lt, Int32.not_le]; omega)
    exact kr_iret hx hb hrt hlocks e_3 rfl dX5_counted_66
  · refine lv_iload_n hx hb dX5_counted_0 rfl (lv_at hl 1 rfl) ?_
    refine lv_tableIn (tgt := 67) (off := 66) hx hb dX5_counted_1 (by decide) (by decide) (by decide) (by decide) ?_
    refine lv_aload_n hx hb dX5_counted_67 rfl (lv_at hl 0 rfl) ?_
    refine lv_iload_n hx hb dX5_counted_68 rfl (lv_at hl 1 rfl) ?_
    refine lv_iconst (v := nI 5) hx hb dX5_counted_69 (by decide) ?_
    refine kx_icmp_ne (tgt := 77) hx hb (by omega) (by omega) dX5_counted_70 (by decide) (fun c_70_4 => ?_) (fun c => absurd c (by omega))
    refine lv_iconst (v := nI 0) hx hb dX5_counted_77 (by decide) ?_
    refine kr_V (As := [.int (bI false)]) (rest := []) (C := RX5) (own := RX5) ⟨hx, hb, hml, hown, hts⟩ (c_X5_seeing l D cI cC cH cL a z zh tx pa wy (nI ns) (nI nl) th rd nu pt za false (by first | assumption | omega)) (cwV 1 hts gX5_counted_X5_seeing rfl rfl rfl k_X5_seeing ⟨Nat.le_of_ble_eq_true rfl, Nat.le_of_ble_eq_true rfl⟩) hP hK (va_recv (q := (RX5, TX5, 12)) hK hP (ci := 5) (q0 := 0) rfl rfl) rfl hl.1 rfl (Nat.le_of_ble_eq_true rfl) dX5_counted_78 ⟨Nat.le_of_ble_eq_true rfl, Nat.le_of_ble_eq_true rfl⟩ ?_
    have e_5 : (nI (seeing z false) : Int32) = (countI z ns 4) := by first | rfl | omega | (simp [countI, Int32.not_lt, Int32.not_le]; done) | (simp [countI, Int32.not_lt, Int32.not_le]; omega)
    exact kr_iret hx hb hrt hlocks e_5 rfl dX5_counted_81
  · refine lv_iload_n hx hb dX5_counted_0 rfl (lv_at hl 1 rfl) ?_
    refine lv_tableIn (tgt := 67) (off := 66) hx hb dX5_counted_1 (by decide) (by decide) (by decide) (by decide) ?_
    refine lv_aload_n hx hb dX5_counted_67 rfl (lv_at hl 0 rfl) ?_
    refine lv_iload_n hx hb dX5_counted_68 rfl (lv_at hl 1 rfl) ?_
    refine lv_iconst (v := nI 5) hx hb dX5_counted_69 (by decide) ?_
    refine kx_icmp_ne (tgt := 77) hx hb (by omega) (by omega) dX5_counted_70 (by decide) (fun c => absurd c (by omega)) (fun c_70_6 => ?_)
    refine lv_iconst (v := nI 1) hx hb dX5_counted_73 (by decide) ?_
    refine lv_goto (tgt := 78) hx hb dX5_counted_74 (by decide) ?_
    refine kr_V (As := [.int (bI true)]) (rest := []) (C := RX5) (own := RX5) ⟨hx, hb, hml, hown, hts⟩ (c_X5_seeing l D cI cC cH cL a z zh tx pa wy (nI ns) (nI nl) th rd nu pt za true (by first | assumption | omega)) (cwV 1 hts gX5_counted_X5_seeing rfl rfl rfl k_X5_seeing ⟨Nat.le_of_ble_eq_true rfl, Nat.le_of_ble_eq_true rfl⟩) hP hK (va_recv (q := (RX5, TX5, 12)) hK hP (ci := 5) (q0 := 0) rfl rfl) rfl hl.1 rfl (Nat.le_of_ble_eq_true rfl) dX5_counted_78 ⟨Nat.le_of_ble_eq_true rfl, Nat.le_of_ble_eq_true rfl⟩ ?_
    have e_7 : (nI (seeing z true) : Int32) = (countI z ns 5) := by first | rfl | omega | (simp [countI, Int32.not_lt, Int32.not_le]; done) | (simp [countI, Int32.not_lt, Int32.not_le]; omega)
    exact kr_iret hx hb hrt hlocks e_7 rfl dX5_counted_81
  · refine lv_iload_n hx hb dX5_counted_0 rfl (lv_at hl 1 rfl) ?_
    refine lv_tableIn (tgt := 82) (off := 81) hx hb dX5_counted_1 (by decide) (by decide) (by decide) (by decide) ?_
    refine lv_aload_n hx hb dX5_counted_82 rfl (lv_at hl 0 rfl) ?_
    refine kr_V (As := []) (rest := []) (C := RX5) (own := RX5) ⟨hx, hb, hml, hown, hts⟩ (c_X5_pairs l D cI cC cH cL a z zh tx pa wy (nI ns) (nI nl) th rd nu pt za  (by first | assumption | omega)) (cwV 0 hts gX5_counted_X5_pairs rfl rfl rfl k_X5_pairs ⟨Nat.le_of_ble_eq_true rfl, Nat.le_of_ble_eq_true rfl⟩) hP hK (va_recv (q := (RX5, TX5, 12)) hK hP (ci := 5) (q0 := 0) rfl rfl) rfl hl.1 rfl (Nat.le_of_ble_eq_true rfl) dX5_counted_83 ⟨Nat.le_of_ble_eq_true rfl, Nat.le_of_ble_eq_true rfl⟩ ?_
    have e_8 : (nI (pairsN z) : Int32) = (countI z ns 6) := by first | rfl | omega | (simp [countI, Int32.not_lt, Int32.not_le]; done) | (simp [countI, Int32.not_lt, Int32.not_le]; omega)
    exact kr_iret hx hb hrt hlocks e_8 rfl dX5_counted_86
  · refine lv_iload_n hx hb dX5_counted_0 rfl (lv_at hl 1 rfl) ?_
    refine lv_tableIn (tgt := 87) (off := 86) hx hb dX5_counted_1 (by decide) (by decide) (by decide) (by decide) ?_
    refine lv_aload_n hx hb dX5_counted_87 rfl (lv_at hl 0 rfl) ?_
    refine kr_V (As := []) (rest := []) (C := RX5) (own := RX5) ⟨hx, hb, hml, hown, hts⟩ (c_X5_longestFree l D cI cC cH cL a z zh tx pa wy (nI ns) (nI nl) th rd nu pt za  (by first | assumption | omega)) (cwV 0 hts gX5_counted_X5_longestFree rfl rfl rfl k_X5_longestFree ⟨Nat.le_of_ble_eq_true rfl, Nat.le_of_ble_eq_true rfl⟩) hP hK (va_recv (q := (RX5, TX5, 12)) hK hP (ci := 5) (q0 := 0) rfl rfl) rfl hl.1 rfl (Nat.le_of_ble_eq_true rfl) dX5_counted_88 ⟨Nat.le_of_ble_eq_true rfl, Nat.le_of_ble_eq_true rfl⟩ ?_
    have e_9 : (lgI z : Int32) = (countI z ns 7) := by first | rfl | omega | (simp [countI, Int32.not_lt, Int32.not_le]; done) | (simp [countI, Int32.not_lt, Int32.not_le]; omega)
    exact kr_iret hx hb hrt hlocks e_9 rfl dX5_counted_91
  · refine lv_iload_n hx hb dX5_counted_0 rfl (lv_at hl 1 rfl) ?_
    refine lv_tableOut (tgt := 92) hx hb dX5_counted_1 (by decide) (by decide) ?_
    refine lv_aload_n hx hb dX5_counted_92 rfl (lv_at hl 0 rfl) ?_
    refine va_get (D := D) (ci := 5) (v := .int (nI ns)) (C := RX5) (T := TX5) (N := 12) hx hb hts iX5_counted_5 hown hK hP 0 rfl rfl 1 (by decide) (hts (.fieldLink RX5 29 "HallSightsModel" "states" "I") (List.mem_of_getElem? (i := 2) rfl)) (fun _ h9 => h9) rfl dX5_counted_93 ?_
    have e_10 : (nI ns : Int32) = (countI z ns 8) := by first | rfl | omega | (simp [countI, Int32.not_lt, Int32.not_le]; done) | (simp [countI, Int32.not_lt, Int32.not_le]; omega)
    exact kr_iret hx hb hrt hlocks e_10 rfl dX5_counted_96
set_option maxHeartbeats 4000000 in
set_option maxRecDepth 100000 in
theorem c_X5_share (l : Launch) (D : va_G) (cI cC cH cL : ClassId) (a : Nat → Nat) (z zh tx pa wy : ZZ) (st le th rd nu pt : Int32) (za : Int64)  (hw : WF z) : Met l yX5_share wsX5_share ({ frames := 8, cells := 0, slots := 0, locals := 187 }) (kp [.ref (a 0)] D (MW a cI z st zh le tx th pa rd nu pt wy za) (kT cI cC cH cL)) (kr (.returned (some (.double (shareD z))))) 0 0 (fun _ => False) := by
  refine Met.ofW (cc := cX5_share) (maxL := 2) (ret := (some .double)) (by decide) rfl ?_
  intro p e s m args below meth c s₁ B hml hv
  obtain ⟨rfl, hP, hK⟩ := hv
  have hx := B.exec
  have hb := B.bytes
  have hrt := B.returns
  have hts := atoms_spec (ws := wsX5_share) B.pre
  have hown : s.vm.findClass RX5 = some m.cls := findClass_of_methodNamed B.named
  have hlocks := B.notSynchronized
  have hl := lv_entry ([.ref (a 0)]) (n := 2) (Nat.le_of_ble_eq_true rfl)
  rw [lg_entry_eq]
  generalize (lg_sl ([.ref (a 0)]) ++ List.replicate (2 - (lg_sl ([.ref (a 0)])).length) Slot.unset).toArray = ls at hl ⊢
  have hl : lv_has ls 2 [(0, .ref (a 0))] := hl
  have hR10 := wf_R10 hw
  have hC4 := wf_C4 hw
  have htb := takenAll_b hw
  have hsb := seeing_b hw true
  refine lv_aload_n hx hb dX5_share_0 rfl (lv_at hl 0 rfl) ?_
  refine kr_V (As := []) (rest := []) (C := RX5) (own := RX5) ⟨hx, hb, hml, hown, hts⟩ (c_X5_allTaken l D cI cC cH cL a z zh tx pa wy st le th rd nu pt za  (by first | assumption | omega)) (cwV 0 hts gX5_share_X5_allTaken rfl rfl rfl k_X5_allTaken ⟨Nat.le_of_ble_eq_true rfl, Nat.le_of_ble_eq_true rfl⟩) hP hK (va_recv (q := (RX5, TX5, 12)) hK hP (ci := 5) (q0 := 0) rfl rfl) rfl hl.1 rfl (Nat.le_of_ble_eq_true rfl) dX5_share_1 ⟨Nat.le_of_ble_eq_true rfl, Nat.le_of_ble_eq_true rfl⟩ ?_
  refine lv_istore_n (lv' := [(1, .int (nI (takenAll z))), (0, .ref (a 0))]) hx hb dX5_share_4 rfl hl (by decide) rfl (fun ls hl => ?_)
  refine lv_iload_n hx hb dX5_share_5 rfl (lv_at hl 0 rfl) ?_
  refine kx_if_ne (tgt := 13) hx hb (by omega) dX5_share_6 (by decide) (fun c_6_0 => ?_) (fun c_6_1 => ?_)
  · refine lv_aload_n hx hb dX5_share_13 rfl (lv_at hl 1 rfl) ?_
    refine lv_iconst (v := nI 1) hx hb dX5_share_14 (by decide) ?_
    refine kr_V (As := [.int (bI true)]) (rest := []) (C := RX5) (own := RX5) ⟨hx, hb, hml, hown, hts⟩ (c_X5_seeing l D cI cC cH cL a z zh tx pa wy st le th rd nu pt za true (by first | assumption | omega)) (cwV 1 hts gX5_share_X5_seeing rfl rfl rfl k_X5_seeing ⟨Nat.le_of_ble_eq_true rfl, Nat.le_of_ble_eq_true rfl⟩) hP hK (va_recv (q := (RX5, TX5, 12)) hK hP (ci := 5) (q0 := 0) rfl rfl) rfl hl.1 rfl (Nat.le_of_ble_eq_true rfl) dX5_share_15 ⟨Nat.le_of_ble_eq_true rfl, Nat.le_of_ble_eq_true rfl⟩ ?_
    refine lv_i2d hx hb dX5_share_18 ?_
    refine lv_iload_n hx hb dX5_share_19 rfl (lv_at hl 0 rfl) ?_
    refine lv_i2d hx hb dX5_share_20 ?_
    refine lv_ddiv hx hb dX5_share_21 (by exact share_nn _ (by omega) _ (by omega) (by omega)) ?_
    have e_2 : ((FP.ddiv (FP.i2d (nI (seeing z true))) (FP.i2d (nI (takenAll z))))) = (shareD z) := by first | rfl | omega | (simp [shareD, Int32.not_lt, Int32.not_le, c_6_0, Nat.ne_of_gt c_6_0]; done) | (simp [shareD, Int32.not_lt, Int32.not_le, c_6_0, Nat.ne_of_gt c_6_0]; omega) | (revert c_6_0; simp +contextual [shareD, Int32.not_lt, Int32.not_le]; done) | (revert c_6_0; simp +contextual [shareD, Int32.not_lt, Int32.not_le]; omega)
    exact kr_dret hx hb hrt hlocks e_2 rfl dX5_share_22
  · refine lv_dconst1 hx hb dX5_share_9 ?_
    refine lv_goto (tgt := 22) hx hb dX5_share_10 (by decide) ?_
    have e_3 : (FP.dconst1) = (shareD z) := by first | rfl | omega | (simp [shareD, Int32.not_lt, Int32.not_le, c_6_1]; done) | (simp [shareD, Int32.not_lt, Int32.not_le, c_6_1]; omega) | (revert c_6_1; simp +contextual [shareD, Int32.not_lt, Int32.not_le]; done) | (revert c_6_1; simp +contextual [shareD, Int32.not_lt, Int32.not_le]; omega)
    exact kr_dret hx hb hrt hlocks e_3 rfl dX5_share_22
set_option maxHeartbeats 4000000 in
set_option maxRecDepth 100000 in
theorem c_Jxe99ae_isNaN_b9ae7 (l : Launch) (D : va_G) (cI cC cH cL : ClassId)  (d0 : UInt64)  : Met l yJxe99ae_isNaN_b9ae7 wsJxe99ae_isNaN_b9ae7 ({ frames := 0, cells := 0, slots := 0, locals := 0 }) (kp [.double d0] D ([]) (kT cI cC cH cL)) (kr (.returned (some (.int (bI (isNaNB d0)))))) 0 0 (fun _ => False) := by
  refine Met.ofW (cc := cJxe99ae_isNaN_b9ae7) (maxL := 2) (ret := (some .boolean)) (by decide) rfl ?_
  intro p e s m args below meth c s₁ B hml hv
  obtain ⟨rfl, hP, hK⟩ := hv
  have hx := B.exec
  have hb := B.bytes
  have hrt := B.returns
  have hts := atoms_spec (ws := wsJxe99ae_isNaN_b9ae7) B.pre
  have hown : s.vm.findClass RJxe99ae = some m.cls := findClass_of_methodNamed B.named
  have hlocks := B.notSynchronized
  have hl := lv_entry ([.double d0]) (n := 2) (Nat.le_of_ble_eq_true rfl)
  rw [lg_entry_eq]
  generalize (lg_sl ([.double d0]) ++ List.replicate (2 - (lg_sl ([.double d0])).length) Slot.unset).toArray = ls at hl ⊢
  have hl : lv_has ls 2 [(0, .double d0)] := hl
  refine lv_dload_n hx hb dJxe99ae_isNaN_b9ae7_0 rfl (lv_at hl 0 rfl) ?_
  refine lv_dload_n hx hb dJxe99ae_isNaN_b9ae7_1 rfl (lv_at hl 0 rfl) ?_
  refine lv_dcmp hx hb dJxe99ae_isNaN_b9ae7_2 ?_
  refine lv_if_eq (tgt := 10) hx hb dJxe99ae_isNaN_b9ae7_3 (by decide) (fun c_3_0 => ?_) (fun c_3_1 => ?_)
  · have c_3_0 : ((Op.cmpValue (FP.dcmp d0 d0) CmpOp.l) : Int32) = 0 := c_3_0
    refine lv_iconst (v := nI 0) hx hb dJxe99ae_isNaN_b9ae7_10 (by decide) ?_
    have e_2 : (false : Bool) = (isNaNB d0) := by first | rfl | omega | (simp [isNaNB, Int32.not_lt, Int32.not_le, c_3_0]; done) | (simp [isNaNB, Int32.not_lt, Int32.not_le, c_3_0]; omega) | (revert c_3_0; simp +contextual [isNaNB, Int32.not_lt, Int32.not_le]; done) | (revert c_3_0; simp +contextual [isNaNB, Int32.not_lt, Int32.not_le]; omega)
    exact kr_zret hx hb hrt hlocks (congrArg bI e_2) rfl dJxe99ae_isNaN_b9ae7_11
  · have c_3_1 : ¬ ((Op.cmpValue (FP.dcmp d0 d0) CmpOp.l) : Int32) = 0 := c_3_1
    refine lv_iconst (v := nI 1) hx hb dJxe99ae_isNaN_b9ae7_6 (by decide) ?_
    refine lv_goto (tgt := 11) hx hb dJxe99ae_isNaN_b9ae7_7 (by decide) ?_
    have e_3 : (true : Bool) = (isNaNB d0) := by first | rfl | omega | (simp [isNaNB, Int32.not_lt, Int32.not_le, c_3_1]; done) | (simp [isNaNB, Int32.not_lt, Int32.not_le, c_3_1]; omega) | (revert c_3_1; simp +contextual [isNaNB, Int32.not_lt, Int32.not_le]; done) | (revert c_3_1; simp +contextual [isNaNB, Int32.not_lt, Int32.not_le]; omega)
    exact kr_zret hx hb hrt hlocks (congrArg bI e_3) rfl dJxe99ae_isNaN_b9ae7_11
set_option maxHeartbeats 4000000 in
set_option maxRecDepth 100000 in
theorem c_Jxe99ae_doubleToLongBits_ccdee (l : Launch) (D : va_G) (cI cC cH cL : ClassId)  (d0 : UInt64)  : Met l yJxe99ae_doubleToLongBits_ccdee wsJxe99ae_doubleToLongBits_ccdee ({ frames := 1, cells := 0, slots := 0, locals := 40 }) (kp [.double d0] D ([]) (kT cI cC cH cL)) (kr (.returned (some (.long (d2lb d0))))) 0 0 (fun _ => False) := by
  refine Met.ofW (cc := cJxe99ae_doubleToLongBits_ccdee) (maxL := 2) (ret := (some .long)) (by decide) rfl ?_
  intro p e s m args below meth c s₁ B hml hv
  obtain ⟨rfl, hP, hK⟩ := hv
  have hx := B.exec
  have hb := B.bytes
  have hrt := B.returns
  have hts := atoms_spec (ws := wsJxe99ae_doubleToLongBits_ccdee) B.pre
  have hown : s.vm.findClass RJxe99ae = some m.cls := findClass_of_methodNamed B.named
  have hlocks := B.notSynchronized
  have hl := lv_entry ([.double d0]) (n := 2) (Nat.le_of_ble_eq_true rfl)
  rw [lg_entry_eq]
  generalize (lg_sl ([.double d0]) ++ List.replicate (2 - (lg_sl ([.double d0])).length) Slot.unset).toArray = ls at hl ⊢
  have hl : lv_has ls 2 [(0, .double d0)] := hl
  refine lv_dload_n hx hb dJxe99ae_doubleToLongBits_ccdee_0 rfl (lv_at hl 0 rfl) ?_
  refine kr_S (As := [.double d0]) (rest := []) (own := RJxe99ae) ⟨hx, hb, hml, hown, hts⟩ (c_Jxe99ae_isNaN_b9ae7 l D cI cC cH cL  d0 ) (va_cwS 1 hts gJxe99ae_doubleToLongBits_ccdee_Jxe99ae_isNaN_b9ae7 rfl rfl rfl k_Jxe99ae_isNaN_b9ae7S ⟨Nat.le_of_ble_eq_true rfl, Nat.le_of_ble_eq_true rfl⟩) hP hK rfl hl.1 rfl (Nat.le_of_ble_eq_true rfl) dJxe99ae_doubleToLongBits_ccdee_1 ⟨Nat.le_of_ble_eq_true rfl, Nat.le_of_ble_eq_true rfl⟩ ?_
  refine kx_if_neb (tgt := 12) hx hb dJxe99ae_doubleToLongBits_ccdee_4 (by decide) (fun c_4_0 => ?_) (fun c_4_1 => ?_)
  · refine lv_ldc2 (v := 9221120237041090560) hx hb hown (hts (.constantLong RJxe99ae 137 (9221120237041090560)) (List.mem_of_getElem? (i := 5) rfl)) dJxe99ae_doubleToLongBits_ccdee_12 ?_
    have e_2 : (9221120237041090560) = (d2lb d0) := by first | rfl | omega | (simp [d2lb, Int32.not_lt, Int32.not_le, c_4_0]; done) | (simp [d2lb, Int32.not_lt, Int32.not_le, c_4_0]; omega) | (revert c_4_0; simp +contextual [d2lb, Int32.not_lt, Int32.not_le]; done) | (revert c_4_0; simp +contextual [d2lb, Int32.not_lt, Int32.not_le]; omega)
    exact kr_lret hx hb hrt hlocks e_2 rfl dJxe99ae_doubleToLongBits_ccdee_15
  · refine lv_dload_n hx hb dJxe99ae_doubleToLongBits_ccdee_7 rfl (lv_at hl 0 rfl) ?_
    refine vn_d2l hx hb (hml.trans hl.1.symm) hown (hts (.methodLink RJxe99ae 134 ⟨"java/lang/Double", "doubleToRawLongBits", "(D)J"⟩) (List.mem_of_getElem? (i := 1) rfl)) (hts (.native ⟨"java/lang/Double", "doubleToRawLongBits", "(D)J"⟩) (List.mem_of_getElem? (i := 2) rfl)) (hts (.static ⟨"java/lang/Double", "doubleToRawLongBits", "(D)J"⟩) (List.mem_of_getElem? (i := 3) rfl)) (hts (.initialized "java/lang/Double") (List.mem_of_getElem? (i := 4) rfl)) (Nat.le_of_ble_eq_true rfl) (Nat.le_of_ble_eq_true rfl) dJxe99ae_doubleToLongBits_ccdee_8 ?_
    have e_3 : (d0.toInt64) = (d2lb d0) := by first | rfl | omega | (simp [d2lb, Int32.not_lt, Int32.not_le, c_4_1]; done) | (simp [d2lb, Int32.not_lt, Int32.not_le, c_4_1]; omega) | (revert c_4_1; simp +contextual [d2lb, Int32.not_lt, Int32.not_le]; done) | (revert c_4_1; simp +contextual [d2lb, Int32.not_lt, Int32.not_le]; omega)
    exact kr_lret hx hb hrt hlocks e_3 rfl dJxe99ae_doubleToLongBits_ccdee_11
set_option maxRecDepth 20000 in
theorem iX5_addsRow_5 : ∀ w ∈ wsX50, w ∈ wsX5_addsRow := by decide +kernel
set_option maxHeartbeats 4000000 in
set_option maxRecDepth 100000 in
theorem c_X5_addsRow (l : Launch) (D : va_G) (cI cC cH cL : ClassId) (a : Nat → Nat) (z zh tx pa wy : ZZ) (st le th rd nu pt : Int32) (za : Int64) (d0 : Int32) (h0 : Int32) (s0 : Int32) (hw : WF z) (hn : nR z < 10) : Met l yX5_addsRow wsX5_addsRow ({ frames := 1, cells := 0, slots := 0, locals := 23 }) (kw [.ref (a 0), .int d0, .int h0, .int s0] D (MW a cI z st zh le tx th pa rd nu pt wy za) (kT cI cC cH cL)) (kq D (MW a cI z st zh le tx th pa rd nu pt wy za) (MW a cI (insZ z d0 h0 s0) st zh le tx th pa rd nu pt wy za) (.returned (some (.int (nI (insAt z d0 (nR z))))))) 0 0 (kA (MW a cI z st zh le tx th pa rd nu pt wy za)) := by
  refine Met.ofW (cc := cX5_addsRow) (maxL := 6) (ret := (some .int)) (by decide) rfl ?_
  intro p e s m args below meth c s₁ B hml hv
  obtain ⟨rfl, hP, hK, hD0⟩ := hv
  have hx := B.exec
  have hb := B.bytes
  have hrt := B.returns
  have hts := atoms_spec (ws := wsX5_addsRow) B.pre
  have hown : s.vm.findClass RX5 = some m.cls := findClass_of_methodNamed B.named
  have hlocks := B.notSynchronized
  have hl := lv_entry ([.ref (a 0), .int d0, .int h0, .int s0]) (n := 6) (Nat.le_of_ble_eq_true rfl)
  rw [lg_entry_eq]
  generalize (lg_sl ([.ref (a 0), .int d0, .int h0, .int s0]) ++ List.replicate (6 - (lg_sl ([.ref (a 0), .int d0, .int h0, .int s0])).length) Slot.unset).toArray = ls at hl ⊢
  have hl : lv_has ls 6 [(0, .ref (a 0)), (1, .int d0), (2, .int h0), (3, .int s0)] := hl
  have hD := kA_self hD0
  obtain ⟨w0, hw0⟩ : ∃ w : va_W, w = MW a cI z st zh le tx th pa rd nu pt wy za := ⟨_, rfl⟩
  have hD : va_D (kA w0) (MW a cI z st zh le tx th pa rd nu pt wy za) := by rw [hw0]; exact hD
  have hS : va_S (kA w0) s.heap s.heap [] := va_S.rf
  rw [show kA (MW a cI z st zh le tx th pa rd nu pt wy za) = kA w0 from by rw [hw0], show kq D (MW a cI z st zh le tx th pa rd nu pt wy za) = kq D w0 from by rw [hw0]]
  have hP : va_P D vwCl (MW a cI z st zh le tx th pa rd nu pt wy za) s.heap := hP
  have hR10 := wf_R10 hw
  have hC4 := wf_C4 hw
  refine lv_aload_n hx hb dX5_addsRow_0 rfl (lv_at hl 0 rfl) ?_
  refine va_get (D := D) (ci := 5) (v := .ref (a 1)) (C := RX5) (T := TX5) (N := 12) hx hb hts iX5_addsRow_5 hown hK hP 0 rfl rfl 0 (by decide) (hts (.fieldLink RX5 7 "HallSightsModel" "z" "[I") (List.mem_of_getElem? (i := 1) rfl)) (fun _ h9 => h9) rfl dX5_addsRow_1 ?_
  refine lv_iconst (v := nI 3) hx hb dX5_addsRow_4 (by decide) ?_
  refine kx_iald hx hb hK hP 1 0 rfl rfl (by omega) (by decide) dX5_addsRow_5 ?_
  refine kx_top (wf_R hw) ?_
  refine lv_istore (lv' := [(4, .int (nI (nR z))), (0, .ref (a 0)), (1, .int d0), (2, .int h0), (3, .int s0)]) hx hb dX5_addsRow_6 hl (by decide) rfl (fun ls hl => ?_)
  have e8_0 : (nR z : Nat) = ((nR z)) := by first | rfl | omega | (simp [Int32.not_lt, Int32.not_le]; done) | (simp [Int32.not_lt, Int32.not_le]; omega)
  have hl8_1 : lv_has ls 6 [(0, .ref (a 0)), (1, .int d0), (2, .int h0), (3, .int s0), (4, .int (nI (nR z)))] := lv_eqv (l1 := [(0, .ref (a 0)), (1, .int d0), (2, .int h0), (3, .int s0), (4, .int (nI (nR z)))]) (lv_sub hl [1, 2, 3, 4, 0] rfl) (lv_ce rfl (lv_ce rfl (lv_ce rfl (lv_ce rfl (lv_ce (congrArg (fun x => Value.int (nI x)) e8_0) rfl)))))
  have ec_z_2 : (z : ZZ) = (shZ z (nR z) (nR z) 0) := by funext jj; simp only [shZ]; rw [if_neg (by omega)]
  have ew_3 : (MW a cI z st zh le tx th pa rd nu pt wy za : va_W) = (MW a cI (shZ z (nR z) (nR z) 0) st zh le tx th pa rd nu pt wy za) := mw_c ec_z_2 rfl rfl rfl rfl rfl rfl rfl rfl rfl rfl rfl
  rw [ew_3] at hP hD
  refine kx_dnW (fun k H locs ls => (va_P D vwCl (MW a cI (shZ z k (nR z) 0) st zh le tx th pa rd nu pt wy za) H ∧ va_D (kA w0) (MW a cI (shZ z k (nR z) 0) st zh le tx th pa rd nu pt wy za) ∧ va_S (kA w0) s.heap H locs) ∧ lv_has ls 6 [(0, .ref (a 0)), (1, .int d0), (2, .int h0), (3, .int s0), (4, .int (nI k))] ∧ (insAt z d0 (nR z) = insAt z d0 k)) (0) (nR z) (by omega) _ _ ls ⟨⟨hP, hD, hS⟩, ⟨hl8_1, rfl⟩⟩ ?_
  clear hP hD hS
  intro ik H locs ls hikl hikh hp ih8
  obtain ⟨⟨hP, hD, hS⟩, hp⟩ := hp
  obtain ⟨hl, hinv8⟩ := hp
  refine lv_iload hx hb dX5_addsRow_8 (lv_at hl 4 rfl) ?_
  refine kx_if_le (tgt := 65) hx hb (by omega) dX5_addsRow_10 (by decide) (fun c_10_4 => ?_) (fun c_10_5 => ?_)
  · have qk : insAt z d0 (nR z) = ik := by first | exact hinv8.trans (insAt_0 (by omega)) | exact hinv8.trans (insAt_le (by omega) (by assumption))
    refine lv_aload_n hx hb dX5_addsRow_65 rfl (lv_at hl 0 rfl) ?_
    refine va_get (D := D) (ci := 5) (v := .ref (a 1)) (C := RX5) (T := TX5) (N := 12) hx hb hts iX5_addsRow_5 hown hK hP 0 rfl rfl 0 (by decide) (hts (.fieldLink RX5 7 "HallSightsModel" "z" "[I") (List.mem_of_getElem? (i := 1) rfl)) (fun _ h9 => h9) rfl dX5_addsRow_66 ?_
    refine lv_iconst (v := nI 3) hx hb dX5_addsRow_69 (by decide) ?_
    refine lv_dup2_11 hx hb dX5_addsRow_70 rfl rfl ?_
    refine kx_iald hx hb hK hP 1 0 rfl rfl (by omega) (by decide) dX5_addsRow_71 ?_
    refine kx_top (show ((shZ z ik (nR z) 0) 3 : Int32) = nI (nR z) from by (rw [show shZ z ik (nR z) 0 3 = z 3 from by unfold shZ; rw [if_neg (by omega)]]; exact wf_R hw)) ?_
    refine lv_iconst (v := nI 1) hx hb dX5_addsRow_72 (by decide) ?_
    refine kx_iadd hx hb dX5_addsRow_73 ?_
    refine kx_iast hx hb hK hP hD hS 1 0 rfl rfl (by omega) (by decide) dX5_addsRow_74 (fun H locs hP hD hS => ?_)
    have hP : va_P D vwCl (MW a cI (upd (shZ z ik (nR z) 0) 3 (nI ((nR z) + 1))) st zh le tx th pa rd nu pt wy za) H := hP
    have hD : va_D (kA w0) (MW a cI (upd (shZ z ik (nR z) 0) 3 (nI ((nR z) + 1))) st zh le tx th pa rd nu pt wy za) := hD
    refine lv_aload_n hx hb dX5_addsRow_75 rfl (lv_at hl 0 rfl) ?_
    refine lv_iload hx hb dX5_addsRow_76 (lv_at hl 4 rfl) ?_
    refine lv_iconst (v := nI 0) hx hb dX5_addsRow_78 (by decide) ?_
    refine lv_iload_n hx hb dX5_addsRow_79 rfl (lv_at hl 1 rfl) ?_
    refine kw_V (As := [.int (nI ik), .int (nI 0), .int d0]) (rest := []) (C := RX5) (own := RX5) ⟨hx, hb, hml, hown, hts⟩ (c_X5_put l D cI cC cH cL a (upd (shZ z ik (nR z) 0) 3 (nI ((nR z) + 1))) zh tx pa wy st le th rd nu pt za ik 0 d0 (by first | assumption | omega)) (cwV 3 hts gX5_addsRow_X5_put rfl rfl rfl k_X5_put ⟨Nat.le_of_ble_eq_true rfl, Nat.le_of_ble_eq_true rfl⟩) hP hD hK hS [0, 1, 2, 3, 4, 5] [] rfl rfl (wr := []) rfl (by decide) (by decide) (by decide) (va_recv (q := (RX5, TX5, 12)) hK hP (ci := 5) (q0 := 0) rfl rfl) rfl hl.1 rfl (Nat.le_of_ble_eq_true rfl) dX5_addsRow_80 ⟨Nat.le_of_ble_eq_true rfl, Nat.le_of_ble_eq_true rfl⟩ (fun H locs hP hD hS => ?_)
    have hP : va_P D vwCl (MW a cI (upd (upd (shZ z ik (nR z) 0) 3 (nI ((nR z) + 1))) (5 + 4 * ik) d0) st zh le tx th pa rd nu pt wy za) H := hP
    have hD : va_D (kA w0) (MW a cI (upd (upd (shZ z ik (nR z) 0) 3 (nI ((nR z) + 1))) (5 + 4 * ik) d0) st zh le tx th pa rd nu pt wy za) := hD
    refine lv_aload_n hx hb dX5_addsRow_83 rfl (lv_at hl 0 rfl) ?_
    refine lv_iload hx hb dX5_addsRow_84 (lv_at hl 4 rfl) ?_
    refine lv_iconst (v := nI 1) hx hb dX5_addsRow_86 (by decide) ?_
    refine lv_iload_n hx hb dX5_addsRow_87 rfl (lv_at hl 2 rfl) ?_
    refine kw_V (As := [.int (nI ik), .int (nI 1), .int h0]) (rest := []) (C := RX5) (own := RX5) ⟨hx, hb, hml, hown, hts⟩ (c_X5_put l D cI cC cH cL a (upd (upd (shZ z ik (nR z) 0) 3 (nI ((nR z) + 1))) (5 + 4 * ik) d0) zh tx pa wy st le th rd nu pt za ik 1 h0 (by first | assumption | omega)) (cwV 3 hts gX5_addsRow_X5_put rfl rfl rfl k_X5_put ⟨Nat.le_of_ble_eq_true rfl, Nat.le_of_ble_eq_true rfl⟩) hP hD hK hS [0, 1, 2, 3, 4, 5] [] rfl rfl (wr := []) rfl (by decide) (by decide) (by decide) (va_recv (q := (RX5, TX5, 12)) hK hP (ci := 5) (q0 := 0) rfl rfl) rfl hl.1 rfl (Nat.le_of_ble_eq_true rfl) dX5_addsRow_88 ⟨Nat.le_of_ble_eq_true rfl, Nat.le_of_ble_eq_true rfl⟩ (fun H locs hP hD hS => ?_)
    have hP : va_P D vwCl (MW a cI (upd (upd (upd (shZ z ik (nR z) 0) 3 (nI ((nR z) + 1))) (5 + 4 * ik) d0) (5 + 4 * ik + 1) h0) st zh le tx th pa rd nu pt wy za) H := hP
    have hD : va_D (kA w0) (MW a cI (upd (upd (upd (shZ z ik (nR z) 0) 3 (nI ((nR z) + 1))) (5 + 4 * ik) d0) (5 + 4 * ik + 1) h0) st zh le tx th pa rd nu pt wy za) := hD
    refine lv_aload_n hx hb dX5_addsRow_91 rfl (lv_at hl 0 rfl) ?_
    refine lv_iload hx hb dX5_addsRow_92 (lv_at hl 4 rfl) ?_
    refine lv_iconst (v := nI 2) hx hb dX5_addsRow_94 (by decide) ?_
    refine lv_iload_n hx hb dX5_addsRow_95 rfl (lv_at hl 3 rfl) ?_
    refine kw_V (As := [.int (nI ik), .int (nI 2), .int s0]) (rest := []) (C := RX5) (own := RX5) ⟨hx, hb, hml, hown, hts⟩ (c_X5_put l D cI cC cH cL a (upd (upd (upd (shZ z ik (nR z) 0) 3 (nI ((nR z) + 1))) (5 + 4 * ik) d0) (5 + 4 * ik + 1) h0) zh tx pa wy st le th rd nu pt za ik 2 s0 (by first | assumption | omega)) (cwV 3 hts gX5_addsRow_X5_put rfl rfl rfl k_X5_put ⟨Nat.le_of_ble_eq_true rfl, Nat.le_of_ble_eq_true rfl⟩) hP hD hK hS [0, 1, 2, 3, 4, 5] [] rfl rfl (wr := []) rfl (by decide) (by decide) (by decide) (va_recv (q := (RX5, TX5, 12)) hK hP (ci := 5) (q0 := 0) rfl rfl) rfl hl.1 rfl (Nat.le_of_ble_eq_true rfl) dX5_addsRow_96 ⟨Nat.le_of_ble_eq_true rfl, Nat.le_of_ble_eq_true rfl⟩ (fun H locs hP hD hS => ?_)
    have hP : va_P D vwCl (MW a cI (upd (upd (upd (upd (shZ z ik (nR z) 0) 3 (nI ((nR z) + 1))) (5 + 4 * ik) d0) (5 + 4 * ik + 1) h0) (5 + 4 * ik + 2) s0) st zh le tx th pa rd nu pt wy za) H := hP
    have hD : va_D (kA w0) (MW a cI (upd (upd (upd (upd (shZ z ik (nR z) 0) 3 (nI ((nR z) + 1))) (5 + 4 * ik) d0) (5 + 4 * ik + 1) h0) (5 + 4 * ik + 2) s0) st zh le tx th pa rd nu pt wy za) := hD
    refine lv_aload_n hx hb dX5_addsRow_99 rfl (lv_at hl 0 rfl) ?_
    refine lv_iload hx hb dX5_addsRow_100 (lv_at hl 4 rfl) ?_
    refine lv_iconst (v := nI 3) hx hb dX5_addsRow_102 (by decide) ?_
    refine lv_iconst (v := nI 0) hx hb dX5_addsRow_103 (by decide) ?_
    refine kw_V (As := [.int (nI ik), .int (nI 3), .int (nI 0)]) (rest := []) (C := RX5) (own := RX5) ⟨hx, hb, hml, hown, hts⟩ (c_X5_put l D cI cC cH cL a (upd (upd (upd (upd (shZ z ik (nR z) 0) 3 (nI ((nR z) + 1))) (5 + 4 * ik) d0) (5 + 4 * ik + 1) h0) (5 + 4 * ik + 2) s0) zh tx pa wy st le th rd nu pt za ik 3 (nI 0) (by first | assumption | omega)) (cwV 3 hts gX5_addsRow_X5_put rfl rfl rfl k_X5_put ⟨Nat.le_of_ble_eq_true rfl, Nat.le_of_ble_eq_true rfl⟩) hP hD hK hS [0, 1, 2, 3, 4, 5] [] rfl rfl (wr := []) rfl (by decide) (by decide) (by decide) (va_recv (q := (RX5, TX5, 12)) hK hP (ci := 5) (q0 := 0) rfl rfl) rfl hl.1 rfl (Nat.le_of_ble_eq_true rfl) dX5_addsRow_104 ⟨Nat.le_of_ble_eq_true rfl, Nat.le_of_ble_eq_true rfl⟩ (fun H locs hP hD hS => ?_)
    have hP : va_P D vwCl (MW a cI (upd (upd (upd (upd (upd (shZ z ik (nR z) 0) 3 (nI ((nR z) + 1))) (5 + 4 * ik) d0) (5 + 4 * ik + 1) h0) (5 + 4 * ik + 2) s0) (5 + 4 * ik + 3) (nI 0)) st zh le tx th pa rd nu pt wy za) H := hP
    have hD : va_D (kA w0) (MW a cI (upd (upd (upd (upd (upd (shZ z ik (nR z) 0) 3 (nI ((nR z) + 1))) (5 + 4 * ik) d0) (5 + 4 * ik + 1) h0) (5 + 4 * ik + 2) s0) (5 + 4 * ik + 3) (nI 0)) st zh le tx th pa rd nu pt wy za) := hD
    refine lv_iload hx hb dX5_addsRow_107 (lv_at hl 4 rfl) ?_
    have e_6 : (ik : Nat) = (insAt z d0 (nR z)) := by exact qk.symm
    have ec_z_7 : ((upd (upd (upd (upd (upd (shZ z ik (nR z) 0) 3 (nI ((nR z) + 1))) (5 + 4 * ik) d0) (5 + 4 * ik + 1) h0) (5 + 4 * ik + 2) s0) (5 + 4 * ik + 3) (nI 0)) : ZZ) = (insZ z d0 h0 s0) := by simp only [insZ, qk]
    have ew_8 : (MW a cI (upd (upd (upd (upd (upd (shZ z ik (nR z) 0) 3 (nI ((nR z) + 1))) (5 + 4 * ik) d0) (5 + 4 * ik + 1) h0) (5 + 4 * ik + 2) s0) (5 + 4 * ik + 3) (nI 0)) st zh le tx th pa rd nu pt wy za : va_W) = (MW a cI (insZ z d0 h0 s0) st zh le tx th pa rd nu pt wy za) := mw_c ec_z_7 rfl rfl rfl rfl rfl rfl rfl rfl rfl rfl rfl
    rw [ew_8] at hP hD
    subst hw0
    exact kq_iret hx hb hrt hlocks (congrArg nI e_6) hP hD hS dX5_addsRow_109
  · refine lv_aload_n hx hb dX5_addsRow_13 rfl (lv_at hl 0 rfl) ?_
    refine lv_iload hx hb dX5_addsRow_14 (lv_at hl 4 rfl) ?_
    refine lv_iconst (v := nI 1) hx hb dX5_addsRow_16 (by decide) ?_
    refine kx_isub hx hb (by omega) dX5_addsRow_17 ?_
    refine lv_iconst (v := nI 0) hx hb dX5_addsRow_18 (by decide) ?_
    refine kr_V (As := [.int (nI (ik - 1)), .int (nI 0)]) (rest := []) (C := RX5) (own := RX5) ⟨hx, hb, hml, hown, hts⟩ (c_X5_of l D cI cC cH cL a (shZ z ik (nR z) 0) zh tx pa wy st le th rd nu pt za (ik - 1) 0 (by first | assumption | omega)) (cwV 2 hts gX5_addsRow_X5_of rfl rfl rfl k_X5_of ⟨Nat.le_of_ble_eq_true rfl, Nat.le_of_ble_eq_true rfl⟩) hP hK (va_recv (q := (RX5, TX5, 12)) hK hP (ci := 5) (q0 := 0) rfl rfl) rfl hl.1 rfl (Nat.le_of_ble_eq_true rfl) dX5_addsRow_19 ⟨Nat.le_of_ble_eq_true rfl, Nat.le_of_ble_eq_true rfl⟩ ?_
    refine kx_top (show ((shZ z ik (nR z) 0) (5 + 4 * (ik - 1)) : Int32) = z (5 + 4 * (ik - 1)) from by (unfold shZ; rw [if_neg (by omega)])) ?_
    refine lv_iload_n hx hb dX5_addsRow_22 rfl (lv_at hl 1 rfl) ?_
    refine lv_icmp_le (tgt := 65) hx hb dX5_addsRow_23 (by decide) (fun c_23_9 => ?_) (fun c_23_10 => ?_)
    · have c_23_9 : ((z (5 + 4 * (ik - 1))) : Int32) ≤ d0 := c_23_9
      have qk : insAt z d0 (nR z) = ik := by first | exact hinv8.trans (insAt_0 (by omega)) | exact hinv8.trans (insAt_le (by omega) (by assumption))
      refine lv_aload_n hx hb dX5_addsRow_65 rfl (lv_at hl 0 rfl) ?_
      refine va_get (D := D) (ci := 5) (v := .ref (a 1)) (C := RX5) (T := TX5) (N := 12) hx hb hts iX5_addsRow_5 hown hK hP 0 rfl rfl 0 (by decide) (hts (.fieldLink RX5 7 "HallSightsModel" "z" "[I") (List.mem_of_getElem? (i := 1) rfl)) (fun _ h9 => h9) rfl dX5_addsRow_66 ?_
      refine lv_iconst (v := nI 3) hx hb dX5_addsRow_69 (by decide) ?_
      refine lv_dup2_11 hx hb dX5_addsRow_70 rfl rfl ?_
      refine kx_iald hx hb hK hP 1 0 rfl rfl (by omega) (by decide) dX5_addsRow_71 ?_
      refine kx_top (show ((shZ z ik (nR z) 0) 3 : Int32) = nI (nR z) from by (rw [show shZ z ik (nR z) 0 3 = z 3 from by unfold shZ; rw [if_neg (by omega)]]; exact wf_R hw)) ?_
      refine lv_iconst (v := nI 1) hx hb dX5_addsRow_72 (by decide) ?_
      refine kx_iadd hx hb dX5_addsRow_73 ?_
      refine kx_iast hx hb hK hP hD hS 1 0 rfl rfl (by omega) (by decide) dX5_addsRow_74 (fun H locs hP hD hS => ?_)
      have hP : va_P D vwCl (MW a cI (upd (shZ z ik (nR z) 0) 3 (nI ((nR z) + 1))) st zh le tx th pa rd nu pt wy za) H := hP
      have hD : va_D (kA w0) (MW a cI (upd (shZ z ik (nR z) 0) 3 (nI ((nR z) + 1))) st zh le tx th pa rd nu pt wy za) := hD
      refine lv_aload_n hx hb dX5_addsRow_75 rfl (lv_at hl 0 rfl) ?_
      refine lv_iload hx hb dX5_addsRow_76 (lv_at hl 4 rfl) ?_
      refine lv_iconst (v := nI 0) hx hb dX5_addsRow_78 (by decide) ?_
      refine lv_iload_n hx hb dX5_addsRow_79 rfl (lv_at hl 1 rfl) ?_
      refine kw_V (As := [.int (nI ik), .int (nI 0), .int d0]) (rest := []) (C := RX5) (own := RX5) ⟨hx, hb, hml, hown, hts⟩ (c_X5_put l D cI cC cH cL a (upd (shZ z ik (nR z) 0) 3 (nI ((nR z) + 1))) zh tx pa wy st le th rd nu pt za ik 0 d0 (by first | assumption | omega)) (cwV 3 hts gX5_addsRow_X5_put rfl rfl rfl k_X5_put ⟨Nat.le_of_ble_eq_true rfl, Nat.le_of_ble_eq_true rfl⟩) hP hD hK hS [0, 1, 2, 3, 4, 5] [] rfl rfl (wr := []) rfl (by decide) (by decide) (by decide) (va_recv (q := (RX5, TX5, 12)) hK hP (ci := 5) (q0 := 0) rfl rfl) rfl hl.1 rfl (Nat.le_of_ble_eq_true rfl) dX5_addsRow_80 ⟨Nat.le_of_ble_eq_true rfl, Nat.le_of_ble_eq_true rfl⟩ (fun H locs hP hD hS => ?_)
      have hP : va_P D vwCl (MW a cI (upd (upd (shZ z ik (nR z) 0) 3 (nI ((nR z) + 1))) (5 + 4 * ik) d0) st zh le tx th pa rd nu pt wy za) H := hP
      have hD : va_D (kA w0) (MW a cI (upd (upd (shZ z ik (nR z) 0) 3 (nI ((nR z) + 1))) (5 + 4 * ik) d0) st zh le tx th pa rd nu pt wy za) := hD
      refine lv_aload_n hx hb dX5_addsRow_83 rfl (lv_at hl 0 rfl) ?_
      refine lv_iload hx hb dX5_addsRow_84 (lv_at hl 4 rfl) ?_
      refine lv_iconst (v := nI 1) hx hb dX5_addsRow_86 (by decide) ?_
      refine lv_iload_n hx hb dX5_addsRow_87 rfl (lv_at hl 2 rfl) ?_
      refine kw_V (As := [.int (nI ik), .int (nI 1), .int h0]) (rest := []) (C := RX5) (own := RX5) ⟨hx, hb, hml, hown, hts⟩ (c_X5_put l D cI cC cH cL a (upd (upd (shZ z ik (nR z) 0) 3 (nI ((nR z) + 1))) (5 + 4 * ik) d0) zh tx pa wy st le th rd nu pt za ik 1 h0 (by first | assumption | omega)) (cwV 3 hts gX5_addsRow_X5_put rfl rfl rfl k_X5_put ⟨Nat.le_of_ble_eq_true rfl, Nat.le_of_ble_eq_true rfl⟩) hP hD hK hS [0, 1, 2, 3, 4, 5] [] rfl rfl (wr := []) rfl (by decide) (by decide) (by decide) (va_recv (q := (RX5, TX5, 12)) hK hP (ci := 5) (q0 := 0) rfl rfl) rfl hl.1 rfl (Nat.le_of_ble_eq_true rfl) dX5_addsRow_88 ⟨Nat.le_of_ble_eq_true rfl, Nat.le_of_ble_eq_true rfl⟩ (fun H locs hP hD hS => ?_)
      have hP : va_P D vwCl (MW a cI (upd (upd (upd (shZ z ik (nR z) 0) 3 (nI ((nR z) + 1))) (5 + 4 * ik) d0) (5 + 4 * ik + 1) h0) st zh le tx th pa rd nu pt wy za) H := hP
      have hD : va_D (kA w0) (MW a cI (upd (upd (upd (shZ z ik (nR z) 0) 3 (nI ((nR z) + 1))) (5 + 4 * ik) d0) (5 + 4 * ik + 1) h0) st zh le tx th pa rd nu pt wy za) := hD
      refine lv_aload_n hx hb dX5_addsRow_91 rfl (lv_at hl 0 rfl) ?_
      refine lv_iload hx hb dX5_addsRow_92 (lv_at hl 4 rfl) ?_
      refine lv_iconst (v := nI 2) hx hb dX5_addsRow_94 (by decide) ?_
      refine lv_iload_n hx hb dX5_addsRow_95 rfl (lv_at hl 3 rfl) ?_
      refine kw_V (As := [.int (nI ik), .int (nI 2), .int s0]) (rest := []) (C := RX5) (own := RX5) ⟨hx, hb, hml, hown, hts⟩ (c_X5_put l D cI cC cH cL a (upd (upd (upd (shZ z ik (nR z) 0) 3 (nI ((nR z) + 1))) (5 + 4 * ik) d0) (5 + 4 * ik + 1) h0) zh tx pa wy st le th rd nu pt za ik 2 s0 (by first | assumption | omega)) (cwV 3 hts gX5_addsRow_X5_put rfl rfl rfl k_X5_put ⟨Nat.le_of_ble_eq_true rfl, Nat.le_of_ble_eq_true rfl⟩) hP hD hK hS [0, 1, 2, 3, 4, 5] [] rfl rfl (wr := []) rfl (by decide) (by decide) (by decide) (va_recv (q := (RX5, TX5, 12)) hK hP (ci := 5) (q0 := 0) rfl rfl) rfl hl.1 rfl (Nat.le_of_ble_eq_true rfl) dX5_addsRow_96 ⟨Nat.le_of_ble_eq_true rfl, Nat.le_of_ble_eq_true rfl⟩ (fun H locs hP hD hS => ?_)
      have hP : va_P D vwCl (MW a cI (upd (upd (upd (upd (shZ z ik (nR z) 0) 3 (nI ((nR z) + 1))) (5 + 4 * ik) d0) (5 + 4 * ik + 1) h0) (5 + 4 * ik + 2) s0) st zh le tx th pa rd nu pt wy za) H := hP
      have hD : va_D (kA w0) (MW a cI (upd (upd (upd (upd (shZ z ik (nR z) 0) 3 (nI ((nR z) + 1))) (5 + 4 * ik) d0) (5 + 4 * ik + 1) h0) (5 + 4 * ik + 2) s0) st zh le tx th pa rd nu pt wy za) := hD
      refine lv_aload_n hx hb dX5_addsRow_99 rfl (lv_at hl 0 rfl) ?_
      refine lv_iload hx hb dX5_addsRow_100 (lv_at hl 4 rfl) ?_
      refine lv_iconst (v := nI 3) hx hb dX5_addsRow_102 (by decide) ?_
      refine lv_iconst (v := nI 0) hx hb dX5_addsRow_103 (by decide) ?_
      refine kw_V (As := [.int (nI ik), .int (nI 3), .int (nI 0)]) (rest := []) (C := RX5) (own := RX5) ⟨hx, hb, hml, hown, hts⟩ (c_X5_put l D cI cC cH cL a (upd (upd (upd (upd (shZ z ik (nR z) 0) 3 (nI ((nR z) + 1))) (5 + 4 * ik) d0) (5 + 4 * ik + 1) h0) (5 + 4 * ik + 2) s0) zh tx pa wy st le th rd nu pt za ik 3 (nI 0) (by first | assumption | omega)) (cwV 3 hts gX5_addsRow_X5_put rfl rfl rfl k_X5_put ⟨Nat.le_of_ble_eq_true rfl, Nat.le_of_ble_eq_true rfl⟩) hP hD hK hS [0, 1, 2, 3, 4, 5] [] rfl rfl (wr := []) rfl (by decide) (by decide) (by decide) (va_recv (q := (RX5, TX5, 12)) hK hP (ci := 5) (q0 := 0) rfl rfl) rfl hl.1 rfl (Nat.le_of_ble_eq_true rfl) dX5_addsRow_104 ⟨Nat.le_of_ble_eq_true rfl, Nat.le_of_ble_eq_true rfl⟩ (fun H locs hP hD hS => ?_)
      have hP : va_P D vwCl (MW a cI (upd (upd (upd (upd (upd (shZ z ik (nR z) 0) 3 (nI ((nR z) + 1))) (5 + 4 * ik) d0) (5 + 4 * ik + 1) h0) (5 + 4 * ik + 2) s0) (5 + 4 * ik + 3) (nI 0)) st zh le tx th pa rd nu pt wy za) H := hP
      have hD : va_D (kA w0) (MW a cI (upd (upd (upd (upd (upd (shZ z ik (nR z) 0) 3 (nI ((nR z) + 1))) (5 + 4 * ik) d0) (5 + 4 * ik + 1) h0) (5 + 4 * ik + 2) s0) (5 + 4 * ik + 3) (nI 0)) st zh le tx th pa rd nu pt wy za) := hD
      refine lv_iload hx hb dX5_addsRow_107 (lv_at hl 4 rfl) ?_
      have e_11 : (ik : Nat) = (insAt z d0 (nR z)) := by exact qk.symm
      have ec_z_12 : ((upd (upd (upd (upd (upd (shZ z ik (nR z) 0) 3 (nI ((nR z) + 1))) (5 + 4 * ik) d0) (5 + 4 * ik + 1) h0) (5 + 4 * ik + 2) s0) (5 + 4 * ik + 3) (nI 0)) : ZZ) = (insZ z d0 h0 s0) := by simp only [insZ, qk]
      have ew_13 : (MW a cI (upd (upd (upd (upd (upd (shZ z ik (nR z) 0) 3 (nI ((nR z) + 1))) (5 + 4 * ik) d0) (5 + 4 * ik + 1) h0) (5 + 4 * ik + 2) s0) (5 + 4 * ik + 3) (nI 0)) st zh le tx th pa rd nu pt wy za : va_W) = (MW a cI (insZ z d0 h0 s0) st zh le tx th pa rd nu pt wy za) := mw_c ec_z_12 rfl rfl rfl rfl rfl rfl rfl rfl rfl rfl rfl
      rw [ew_13] at hP hD
      subst hw0
      exact kq_iret hx hb hrt hlocks (congrArg nI e_11) hP hD hS dX5_addsRow_109
    · have c_23_10 : ¬ ((z (5 + 4 * (ik - 1))) : Int32) ≤ d0 := c_23_10
      refine lv_iconst (v := nI 0) hx hb dX5_addsRow_26 (by decide) ?_
      refine lv_istore (lv' := [(5, .int (nI 0)), (0, .ref (a 0)), (1, .int d0), (2, .int h0), (3, .int s0), (4, .int (nI ik))]) hx hb dX5_addsRow_27 hl (by decide) rfl (fun ls hl => ?_)
      refine kx_upW (fun k H locs ls => (va_P D vwCl (MW a cI (shZ z ik (nR z) k) st zh le tx th pa rd nu pt wy za) H ∧ va_D (kA w0) (MW a cI (shZ z ik (nR z) k) st zh le tx th pa rd nu pt wy za) ∧ va_S (kA w0) s.heap H locs) ∧ lv_has ls 6 [(0, .ref (a 0)), (1, .int d0), (2, .int h0), (3, .int s0), (4, .int (nI ik)), (5, .int (nI k))]) (0) (4) (by omega) _ _ ls ⟨⟨hP, hD, hS⟩, (lv_sub hl [1, 2, 3, 4, 5, 0] rfl)⟩ ?_
      clear hP hD hS
      intro iw H locs ls hiwl hiwh hp ih29
      obtain ⟨⟨hP, hD, hS⟩, hp⟩ := hp
      have hl := hp
      refine lv_iload hx hb dX5_addsRow_29 (lv_at hl 5 rfl) ?_
      refine lv_iconst (v := nI 4) hx hb dX5_addsRow_31 (by decide) ?_
      refine kx_icmp_ge (tgt := 59) hx hb (by omega) (by omega) dX5_addsRow_32 (by decide) (fun c_32_14 => ?_) (fun c_32_15 => ?_)
      · have hq16 : 4 = iw := by omega
        subst hq16
        refine lv_iinc (v := nI (ik - 1)) (lv' := [(4, .int (nI (ik - 1))), (0, .ref (a 0)), (1, .int d0), (2, .int h0), (3, .int s0), (5, .int (nI 4))]) hx hb dX5_addsRow_59 hl (k := 4) rfl (kx_dec (by omega)) (by decide) rfl (fun ls hl => ?_)
        refine lv_goto (tgt := 8) hx hb dX5_addsRow_62 (by decide) ?_
        have e8_17 : (ik - 1 : Nat) = ((ik - 1)) := by first | rfl | omega | (simp [Int32.not_lt, Int32.not_le, c_10_5, Nat.ne_of_gt c_10_5, c_23_10, Int32.not_le.mp c_23_10, c_32_14, Nat.not_lt.mpr c_32_14]; done) | (simp [Int32.not_lt, Int32.not_le, c_10_5, Nat.ne_of_gt c_10_5, c_23_10, Int32.not_le.mp c_23_10, c_32_14, Nat.not_lt.mpr c_32_14]; omega) | (revert c_10_5 c_23_10 c_32_14; simp +contextual [Int32.not_lt, Int32.not_le]; done) | (revert c_10_5 c_23_10 c_32_14; simp +contextual [Int32.not_lt, Int32.not_le]; omega)
        have hl8_18 : lv_has ls 6 [(0, .ref (a 0)), (1, .int d0), (2, .int h0), (3, .int s0), (4, .int (nI (ik - 1)))] := lv_eqv (l1 := [(0, .ref (a 0)), (1, .int d0), (2, .int h0), (3, .int s0), (4, .int (nI (ik - 1)))]) (lv_sub hl [1, 2, 3, 4, 0] rfl) (lv_ce rfl (lv_ce rfl (lv_ce rfl (lv_ce rfl (lv_ce (congrArg (fun x => Value.int (nI x)) e8_17) rfl)))))
        have ec_z_19 : ((shZ z ik (nR z) 4) : ZZ) = (shZ z (ik - 1) (nR z) 0) := by funext jj; simp only [upd, shZ]; (repeat' split) <;> first | rfl | omega | (exfalso; omega) | (congr 1; omega)
        have ew_20 : (MW a cI (shZ z ik (nR z) 4) st zh le tx th pa rd nu pt wy za : va_W) = (MW a cI (shZ z (ik - 1) (nR z) 0) st zh le tx th pa rd nu pt wy za) := mw_c ec_z_19 rfl rfl rfl rfl rfl rfl rfl rfl rfl rfl rfl
        rw [ew_20] at hP hD
        exact ih8 _ _ _ (by omega) ⟨⟨hP, hD, hS⟩, ⟨hl8_18, hinv8.trans (insAt_gt (by omega) (by assumption))⟩⟩
      · refine lv_aload_n hx hb dX5_addsRow_35 rfl (lv_at hl 0 rfl) ?_
        refine lv_iload hx hb dX5_addsRow_36 (lv_at hl 4 rfl) ?_
        refine lv_iload hx hb dX5_addsRow_38 (lv_at hl 5 rfl) ?_
        refine lv_aload_n hx hb dX5_addsRow_40 rfl (lv_at hl 0 rfl) ?_
        refine lv_iload hx hb dX5_addsRow_41 (lv_at hl 4 rfl) ?_
        refine lv_iconst (v := nI 1) hx hb dX5_addsRow_43 (by decide) ?_
        refine kx_isub hx hb (by omega) dX5_addsRow_44 ?_
        refine lv_iload hx hb dX5_addsRow_45 (lv_at hl 5 rfl) ?_
        refine kr_V (As := [.int (nI (ik - 1)), .int (nI iw)]) (rest := [.int (nI iw), .int (nI ik), .ref (a 0)]) (C := RX5) (own := RX5) ⟨hx, hb, hml, hown, hts⟩ (c_X5_of l D cI cC cH cL a (shZ z ik (nR z) iw) zh tx pa wy st le th rd nu pt za (ik - 1) iw (by first | assumption | omega)) (cwV 2 hts gX5_addsRow_X5_of rfl rfl rfl k_X5_of ⟨Nat.le_of_ble_eq_true rfl, Nat.le_of_ble_eq_true rfl⟩) hP hK (va_recv (q := (RX5, TX5, 12)) hK hP (ci := 5) (q0 := 0) rfl rfl) rfl hl.1 rfl (Nat.le_of_ble_eq_true rfl) dX5_addsRow_47 ⟨Nat.le_of_ble_eq_true rfl, Nat.le_of_ble_eq_true rfl⟩ ?_
        refine kx_top (show ((shZ z ik (nR z) iw) (5 + 4 * (ik - 1) + iw) : Int32) = z (5 + 4 * (ik - 1) + iw) from by (unfold shZ; rw [if_neg (by omega)])) ?_
        refine kw_V (As := [.int (nI ik), .int (nI iw), .int (z (5 + 4 * (ik - 1) + iw))]) (rest := []) (C := RX5) (own := RX5) ⟨hx, hb, hml, hown, hts⟩ (c_X5_put l D cI cC cH cL a (shZ z ik (nR z) iw) zh tx pa wy st le th rd nu pt za ik iw (z (5 + 4 * (ik - 1) + iw)) (by first | assumption | omega)) (cwV 3 hts gX5_addsRow_X5_put rfl rfl rfl k_X5_put ⟨Nat.le_of_ble_eq_true rfl, Nat.le_of_ble_eq_true rfl⟩) hP hD hK hS [0, 1, 2, 3, 4, 5] [] rfl rfl (wr := []) rfl (by decide) (by decide) (by decide) (va_recv (q := (RX5, TX5, 12)) hK hP (ci := 5) (q0 := 0) rfl rfl) rfl hl.1 rfl (Nat.le_of_ble_eq_true rfl) dX5_addsRow_50 ⟨Nat.le_of_ble_eq_true rfl, Nat.le_of_ble_eq_true rfl⟩ (fun H locs hP hD hS => ?_)
        have hP : va_P D vwCl (MW a cI (upd (shZ z ik (nR z) iw) (5 + 4 * ik + iw) (z (5 + 4 * (ik - 1) + iw))) st zh le tx th pa rd nu pt wy za) H := hP
        have hD : va_D (kA w0) (MW a cI (upd (shZ z ik (nR z) iw) (5 + 4 * ik + iw) (z (5 + 4 * (ik - 1) + iw))) st zh le tx th pa rd nu pt wy za) := hD
        refine lv_iinc (v := nI (iw + 1)) (lv' := [(5, .int (nI (iw + 1))), (0, .ref (a 0)), (1, .int d0), (2, .int h0), (3, .int s0), (4, .int (nI ik))]) hx hb dX5_addsRow_53 hl (k := 5) rfl (kx_inc 1) (by decide) rfl (fun ls hl => ?_)
        refine lv_goto (tgt := 29) hx hb dX5_addsRow_56 (by decide) ?_
        have e29_21 : (iw + 1 : Nat) = ((iw + 1)) := by first | rfl | omega | (simp [Int32.not_lt, Int32.not_le, c_10_5, Nat.ne_of_gt c_10_5, c_23_10, Int32.not_le.mp c_23_10, c_32_15, Nat.not_le.mpr c_32_15]; done) | (simp [Int32.not_lt, Int32.not_le, c_10_5, Nat.ne_of_gt c_10_5, c_23_10, Int32.not_le.mp c_23_10, c_32_15, Nat.not_le.mpr c_32_15]; omega) | (revert c_10_5 c_23_10 c_32_15; simp +contextual [Int32.not_lt, Int32.not_le]; done) | (revert c_10_5 c_23_10 c_32_15; simp +contextual [Int32.not_lt, Int32.not_le]; omega)
        have hl29_22 : lv_has ls 6 [(0, .ref (a 0)), (1, .int d0), (2, .int h0), (3, .int s0), (4, .int (nI ik)), (5, .int (nI (iw + 1)))] := lv_eqv (l1 := [(0, .ref (a 0)), (1, .int d0), (2, .int h0), (3, .int s0), (4, .int (nI ik)), (5, .int (nI (iw + 1)))]) (lv_sub hl [1, 2, 3, 4, 5, 0] rfl) (lv_ce rfl (lv_ce rfl (lv_ce rfl (lv_ce rfl (lv_ce rfl (lv_ce (congrArg (fun x => Value.int (nI x)) e29_21) rfl))))))
        have ec_z_23 : ((upd (shZ z ik (nR z) iw) (5 + 4 * ik + iw) (z (5 + 4 * (ik - 1) + iw))) : ZZ) = (shZ z ik (nR z) (iw + 1)) := by funext jj; simp only [upd, shZ]; (repeat' split) <;> first | rfl | omega | (exfalso; omega) | (congr 1; omega)
        have ew_24 : (MW a cI (upd (shZ z ik (nR z) iw) (5 + 4 * ik + iw) (z (5 + 4 * (ik - 1) + iw))) st zh le tx th pa rd nu pt wy za : va_W) = (MW a cI (shZ z ik (nR z) (iw + 1)) st zh le tx th pa rd nu pt wy za) := mw_c ec_z_23 rfl rfl rfl rfl rfl rfl rfl rfl rfl rfl rfl
        rw [ew_24] at hP hD
        exact ih29 _ _ _ (by omega) ⟨⟨hP, hD, hS⟩, hl29_22⟩
set_option maxHeartbeats 4000000 in
set_option maxRecDepth 100000 in
theorem c_X5_mixRow (l : Launch) (D : va_G) (cI cC cH cL : ClassId) (a : Nat → Nat) (z zh tx pa wy : ZZ) (st le th rd nu pt : Int32) (za : Int64) (r0 : Nat) (hw : WF z) (hd : WD z) (hr : r0 < nR z) : Met l yX5_mixRow wsX5_mixRow ({ frames := 9, cells := 0, slots := 0, locals := 211 }) (kw [.ref (a 0), .int (nI r0)] D (MW a cI z st zh le tx th pa rd nu pt wy za) (kT cI cC cH cL)) (kq D (MW a cI z st zh le tx th pa rd nu pt wy za) (MW a cI z st zh le tx th pa rd nu pt (wyRow z (nS z r0) wy) (mixRowL z wy r0 za)) (.returned none)) 0 0 (kA (MW a cI z st zh le tx th pa rd nu pt wy za)) := by
  refine Met.ofW (cc := cX5_mixRow) (maxL := 4) (ret := none) (by decide) rfl ?_
  intro p e s m args below meth c s₁ B hml hv
  obtain ⟨rfl, hP, hK, hD0⟩ := hv
  have hx := B.exec
  have hb := B.bytes
  have hrt := B.returns
  have hts := atoms_spec (ws := wsX5_mixRow) B.pre
  have hown : s.vm.findClass RX5 = some m.cls := findClass_of_methodNamed B.named
  have hlocks := B.notSynchronized
  have hl := lv_entry ([.ref (a 0), .int (nI r0)]) (n := 4) (Nat.le_of_ble_eq_true rfl)
  rw [lg_entry_eq]
  generalize (lg_sl ([.ref (a 0), .int (nI r0)]) ++ List.replicate (4 - (lg_sl ([.ref (a 0), .int (nI r0)])).length) Slot.unset).toArray = ls at hl ⊢
  have hl : lv_has ls 4 [(0, .ref (a 0)), (1, .int (nI r0))] := hl
  have hD := kA_self hD0
  obtain ⟨w0, hw0⟩ : ∃ w : va_W, w = MW a cI z st zh le tx th pa rd nu pt wy za := ⟨_, rfl⟩
  have hD : va_D (kA w0) (MW a cI z st zh le tx th pa rd nu pt wy za) := by rw [hw0]; exact hD
  have hS : va_S (kA w0) s.heap s.heap [] := va_S.rf
  rw [show kA (MW a cI z st zh le tx th pa rd nu pt wy za) = kA w0 from by rw [hw0], show kq D (MW a cI z st zh le tx th pa rd nu pt wy za) = kq D w0 from by rw [hw0]]
  have hP : va_P D vwCl (MW a cI z st zh le tx th pa rd nu pt wy za) s.heap := hP
  have hR10 := wf_R10 hw
  have hC4 := wf_C4 hw
  have hS0 := wf_S12 hw hr
  refine lv_iconst (v := nI 0) hx hb dX5_mixRow_0 (by decide) ?_
  refine lv_istore_n (lv' := [(2, .int (nI 0)), (0, .ref (a 0)), (1, .int (nI r0))]) hx hb dX5_mixRow_1 rfl hl (by decide) rfl (fun ls hl => ?_)
  have ec_za_0 : (za : Int64) = (itN 0 (fun w h => mixL h (rowNowI z r0 w).toInt64) za) := by first | rfl | omega | (simp [mixRowL, mrS, mrW, mrB, mrA, itN_s, wyRow, Int32.not_lt, Int32.not_le]; done) | (simp [mixRowL, mrS, mrW, mrB, mrA, itN_s, wyRow, Int32.not_lt, Int32.not_le]; omega)
  have ew_1 : (MW a cI z st zh le tx th pa rd nu pt wy za : va_W) = (MW a cI z st zh le tx th pa rd nu pt wy (itN 0 (fun w h => mixL h (rowNowI z r0 w).toInt64) za)) := mw_c rfl rfl rfl rfl rfl rfl rfl rfl rfl rfl rfl ec_za_0
  rw [ew_1] at hP hD
  refine kx_upW (fun k H locs ls => (va_P D vwCl (MW a cI z st zh le tx th pa rd nu pt wy (itN k (fun w h => mixL h (rowNowI z r0 w).toInt64) za)) H ∧ va_D (kA w0) (MW a cI z st zh le tx th pa rd nu pt wy (itN k (fun w h => mixL h (rowNowI z r0 w).toInt64) za)) ∧ va_S (kA w0) s.heap H locs) ∧ lv_has ls 4 [(0, .ref (a 0)), (1, .int (nI r0)), (2, .int (nI k))]) (0) (6) (by omega) _ _ ls ⟨⟨hP, hD, hS⟩, (lv_sub hl [1, 2, 0] rfl)⟩ ?_
  clear hP hD hS
  intro ix H locs ls hixl hixh hp ih2
  obtain ⟨⟨hP, hD, hS⟩, hp⟩ := hp
  have hl := hp
  refine lv_iload_n hx hb dX5_mixRow_2 rfl (lv_at hl 2 rfl) ?_
  refine lv_bipush (v := nI 6) hx hb dX5_mixRow_3 (by decide) ?_
  refine kx_icmp_ge (tgt := 25) hx hb (by omega) (by omega) dX5_mixRow_5 (by decide) (fun c_5_2 => ?_) (fun c_5_3 => ?_)
  · have hq4 : 6 = ix := by omega
    subst hq4
    refine lv_aload_n hx hb dX5_mixRow_25 rfl (lv_at hl 0 rfl) ?_
    refine lv_aload_n hx hb dX5_mixRow_26 rfl (lv_at hl 0 rfl) ?_
    refine lv_iload_n hx hb dX5_mixRow_27 rfl (lv_at hl 1 rfl) ?_
    refine kr_V (As := [.int (nI r0)]) (rest := [.ref (a 0)]) (C := RX5) (own := RX5) ⟨hx, hb, hml, hown, hts⟩ (c_X5_leastFor l D cI cC cH cL a z zh tx pa wy st le th rd nu pt (itN 6 (fun w h => mixL h (rowNowI z r0 w).toInt64) za) r0 (by first | assumption | omega) (by first | assumption | omega) (by first | assumption | omega)) (cwV 1 hts gX5_mixRow_X5_leastFor rfl rfl rfl k_X5_leastFor ⟨Nat.le_of_ble_eq_true rfl, Nat.le_of_ble_eq_true rfl⟩) hP hK (va_recv (q := (RX5, TX5, 12)) hK hP (ci := 5) (q0 := 0) rfl rfl) rfl hl.1 rfl (Nat.le_of_ble_eq_true rfl) dX5_mixRow_28 ⟨Nat.le_of_ble_eq_true rfl, Nat.le_of_ble_eq_true rfl⟩ ?_
    refine lv_i2l hx hb dX5_mixRow_31 rfl ?_
    refine kw_V (As := [.long ((leastForI z r0).toInt64)]) (rest := []) (C := RX5) (own := RX5) ⟨hx, hb, hml, hown, hts⟩ (c_X5_mix l D cI cC cH cL a z zh tx pa wy st le th rd nu pt (itN 6 (fun w h => mixL h (rowNowI z r0 w).toInt64) za) ((leastForI z r0).toInt64) ) (cwV 1 hts gX5_mixRow_X5_mix rfl rfl rfl k_X5_mix ⟨Nat.le_of_ble_eq_true rfl, Nat.le_of_ble_eq_true rfl⟩) hP hD hK hS [0, 1, 2, 3, 4, 5] [] rfl rfl (wr := []) rfl (by decide) (by decide) (by decide) (va_recv (q := (RX5, TX5, 12)) hK hP (ci := 5) (q0 := 0) rfl rfl) rfl hl.1 rfl (Nat.le_of_ble_eq_true rfl) dX5_mixRow_32 ⟨Nat.le_of_ble_eq_true rfl, Nat.le_of_ble_eq_true rfl⟩ (fun H locs hP hD hS => ?_)
    have hP : va_P D vwCl (MW a cI z st zh le tx th pa rd nu pt wy (mixL (itN 6 (fun w h => mixL h (rowNowI z r0 w).toInt64) za) ((leastForI z r0).toInt64))) H := hP
    have hD : va_D (kA w0) (MW a cI z st zh le tx th pa rd nu pt wy (mixL (itN 6 (fun w h => mixL h (rowNowI z r0 w).toInt64) za) ((leastForI z r0).toInt64))) := hD
    refine lv_aload_n hx hb dX5_mixRow_35 rfl (lv_at hl 0 rfl) ?_
    refine lv_aload_n hx hb dX5_mixRow_36 rfl (lv_at hl 0 rfl) ?_
    refine lv_iload_n hx hb dX5_mixRow_37 rfl (lv_at hl 1 rfl) ?_
    refine lv_bipush (v := nI 50) hx hb dX5_mixRow_38 (by decide) ?_
    refine kw_V (As := [.int (nI r0), .int (nI 50)]) (rest := [.ref (a 0)]) (C := RX5) (own := RX5) ⟨hx, hb, hml, hown, hts⟩ (c_X5_liftedThen l D cI cC cH cL a z zh tx pa wy st le th rd nu pt (mixL (itN 6 (fun w h => mixL h (rowNowI z r0 w).toInt64) za) ((leastForI z r0).toInt64)) r0 (nI 50) (by first | assumption | omega) (by first | assumption | omega)) (cwV 2 hts gX5_mixRow_X5_liftedThen rfl rfl rfl k_X5_liftedThen ⟨Nat.le_of_ble_eq_true rfl, Nat.le_of_ble_eq_true rfl⟩) hP hD hK hS [0, 1, 2, 3, 4, 5] [] rfl rfl (wr := []) rfl (by decide) (by decide) (by decide) (va_recv (q := (RX5, TX5, 12)) hK hP (ci := 5) (q0 := 0) rfl rfl) rfl hl.1 rfl (Nat.le_of_ble_eq_true rfl) dX5_mixRow_40 ⟨Nat.le_of_ble_eq_true rfl, Nat.le_of_ble_eq_true rfl⟩ (fun H locs hP hD hS => ?_)
    have hP : va_P D vwCl (MW a cI z st zh le tx th pa rd nu pt wy (mixL (itN 6 (fun w h => mixL h (rowNowI z r0 w).toInt64) za) ((leastForI z r0).toInt64))) H := hP
    have hD : va_D (kA w0) (MW a cI z st zh le tx th pa rd nu pt wy (mixL (itN 6 (fun w h => mixL h (rowNowI z r0 w).toInt64) za) ((leastForI z r0).toInt64))) := hD
    refine lv_i2l hx hb dX5_mixRow_43 rfl ?_
    refine kw_V (As := [.long ((nI (liftThen z r0 (nI 50))).toInt64)]) (rest := []) (C := RX5) (own := RX5) ⟨hx, hb, hml, hown, hts⟩ (c_X5_mix l D cI cC cH cL a z zh tx pa wy st le th rd nu pt (mixL (itN 6 (fun w h => mixL h (rowNowI z r0 w).toInt64) za) ((leastForI z r0).toInt64)) ((nI (liftThen z r0 (nI 50))).toInt64) ) (cwV 1 hts gX5_mixRow_X5_mix rfl rfl rfl k_X5_mix ⟨Nat.le_of_ble_eq_true rfl, Nat.le_of_ble_eq_true rfl⟩) hP hD hK hS [0, 1, 2, 3, 4, 5] [] rfl rfl (wr := []) rfl (by decide) (by decide) (by decide) (va_recv (q := (RX5, TX5, 12)) hK hP (ci := 5) (q0 := 0) rfl rfl) rfl hl.1 rfl (Nat.le_of_ble_eq_true rfl) dX5_mixRow_44 ⟨Nat.le_of_ble_eq_true rfl, Nat.le_of_ble_eq_true rfl⟩ (fun H locs hP hD hS => ?_)
    have hP : va_P D vwCl (MW a cI z st zh le tx th pa rd nu pt wy (mixL (mixL (itN 6 (fun w h => mixL h (rowNowI z r0 w).toInt64) za) ((leastForI z r0).toInt64)) ((nI (liftThen z r0 (nI 50))).toInt64))) H := hP
    have hD : va_D (kA w0) (MW a cI z st zh le tx th pa rd nu pt wy (mixL (mixL (itN 6 (fun w h => mixL h (rowNowI z r0 w).toInt64) za) ((leastForI z r0).toInt64)) ((nI (liftThen z r0 (nI 50))).toInt64))) := hD
    refine lv_iconst (v := nI 0) hx hb dX5_mixRow_47 (by decide) ?_
    refine lv_istore_n (lv' := [(2, .int (nI 0)), (0, .ref (a 0)), (1, .int (nI r0))]) hx hb dX5_mixRow_48 rfl hl (by decide) rfl (fun ls hl => ?_)
    have ec_wy_5 : (wy : ZZ) = (wyRow z 0 wy) := by first | rfl | omega | (simp [mixRowL, mrS, mrW, mrB, mrA, itN_s, wyRow, Int32.not_lt, Int32.not_le, c_5_2, Nat.not_lt.mpr c_5_2]; done) | (simp [mixRowL, mrS, mrW, mrB, mrA, itN_s, wyRow, Int32.not_lt, Int32.not_le, c_5_2, Nat.not_lt.mpr c_5_2]; omega) | (revert c_5_2; simp +contextual [mixRowL, mrS, mrW, mrB, mrA, itN_s, wyRow, Int32.not_lt, Int32.not_le]; done) | (revert c_5_2; simp +contextual [mixRowL, mrS, mrW, mrB, mrA, itN_s, wyRow, Int32.not_lt, Int32.not_le]; omega)
    have ec_za_6 : ((mixL (mixL (itN 6 (fun w h => mixL h (rowNowI z r0 w).toInt64) za) ((leastForI z r0).toInt64)) ((nI (liftThen z r0 (nI 50))).toInt64)) : Int64) = (itN 0 (fun s h => mrS z (wyRow z s wy) r0 s h) (mrB z r0 za)) := by first | rfl | omega | (simp [mixRowL, mrS, mrW, mrB, mrA, itN_s, wyRow, Int32.not_lt, Int32.not_le, c_5_2, Nat.not_lt.mpr c_5_2]; done) | (simp [mixRowL, mrS, mrW, mrB, mrA, itN_s, wyRow, Int32.not_lt, Int32.not_le, c_5_2, Nat.not_lt.mpr c_5_2]; omega) | (revert c_5_2; simp +contextual [mixRowL, mrS, mrW, mrB, mrA, itN_s, wyRow, Int32.not_lt, Int32.not_le]; done) | (revert c_5_2; simp +contextual [mixRowL, mrS, mrW, mrB, mrA, itN_s, wyRow, Int32.not_lt, Int32.not_le]; omega)
    have ew_7 : (MW a cI z st zh le tx th pa rd nu pt wy (mixL (mixL (itN 6 (fun w h => mixL h (rowNowI z r0 w).toInt64) za) ((leastForI z r0).toInt64)) ((nI (liftThen z r0 (nI 50))).toInt64)) : va_W) = (MW a cI z st zh le tx th pa rd nu pt (wyRow z 0 wy) (itN 0 (fun s h => mrS z (wyRow z s wy) r0 s h) (mrB z r0 za))) := mw_c rfl rfl rfl rfl rfl rfl rfl rfl rfl rfl ec_wy_5 ec_za_6
    rw [ew_7] at hP hD
    refine kx_upW (fun k H locs ls => (va_P D vwCl (MW a cI z st zh le tx th pa rd nu pt (wyRow z k wy) (itN k (fun s h => mrS z (wyRow z s wy) r0 s h) (mrB z r0 za))) H ∧ va_D (kA w0) (MW a cI z st zh le tx th pa rd nu pt (wyRow z k wy) (itN k (fun s h => mrS z (wyRow z s wy) r0 s h) (mrB z r0 za))) ∧ va_S (kA w0) s.heap H locs) ∧ lv_has ls 4 [(0, .ref (a 0)), (1, .int (nI r0)), (2, .int (nI k))]) (0) (nS z r0) (by omega) _ _ ls ⟨⟨hP, hD, hS⟩, (lv_sub hl [1, 2, 0] rfl)⟩ ?_
    clear hP hD hS
    intro iw H locs ls hiwl hiwh hp ih49
    obtain ⟨⟨hP, hD, hS⟩, hp⟩ := hp
    have hl := hp
    refine lv_iload_n hx hb dX5_mixRow_49 rfl (lv_at hl 2 rfl) ?_
    refine lv_aload_n hx hb dX5_mixRow_50 rfl (lv_at hl 0 rfl) ?_
    refine lv_iload_n hx hb dX5_mixRow_51 rfl (lv_at hl 1 rfl) ?_
    refine lv_iconst (v := nI 2) hx hb dX5_mixRow_52 (by decide) ?_
    refine kr_V (As := [.int (nI r0), .int (nI 2)]) (rest := [.int (nI iw)]) (C := RX5) (own := RX5) ⟨hx, hb, hml, hown, hts⟩ (c_X5_of l D cI cC cH cL a z zh tx pa (wyRow z iw wy) st le th rd nu pt (itN iw (fun s h => mrS z (wyRow z s wy) r0 s h) (mrB z r0 za)) r0 2 (by first | assumption | omega)) (cwV 2 hts gX5_mixRow_X5_of rfl rfl rfl k_X5_of ⟨Nat.le_of_ble_eq_true rfl, Nat.le_of_ble_eq_true rfl⟩) hP hK (va_recv (q := (RX5, TX5, 12)) hK hP (ci := 5) (q0 := 0) rfl rfl) rfl hl.1 rfl (Nat.le_of_ble_eq_true rfl) dX5_mixRow_53 ⟨Nat.le_of_ble_eq_true rfl, Nat.le_of_ble_eq_true rfl⟩ ?_
    refine kx_top (wf_S hw (show (r0) < nR z by omega)) ?_
    have hS12_8 := wf_S12 hw (show (r0) < nR z by omega)
    refine kx_icmp_ge (tgt := 113) hx hb (by omega) (by omega) dX5_mixRow_56 (by decide) (fun c_56_9 => ?_) (fun c_56_10 => ?_)
    · have hq11 : nS z r0 = iw := by omega
      subst hq11
      have ec_za_12 : ((itN (nS z r0) (fun s h => mrS z (wyRow z s wy) r0 s h) (mrB z r0 za)) : Int64) = (mixRowL z wy r0 za) := by first | rfl | omega | (simp [mixRowL, mrS, mrW, mrB, mrA, itN_s, wyRow, Int32.not_lt, Int32.not_le, c_5_2, Nat.not_lt.mpr c_5_2, c_56_9, Nat.not_lt.mpr c_56_9]; done) | (simp [mixRowL, mrS, mrW, mrB, mrA, itN_s, wyRow, Int32.not_lt, Int32.not_le, c_5_2, Nat.not_lt.mpr c_5_2, c_56_9, Nat.not_lt.mpr c_56_9]; omega) | (revert c_5_2 c_56_9; simp +contextual [mixRowL, mrS, mrW, mrB, mrA, itN_s, wyRow, Int32.not_lt, Int32.not_le]; done) | (revert c_5_2 c_56_9; simp +contextual [mixRowL, mrS, mrW, mrB, mrA, itN_s, wyRow, Int32.not_lt, Int32.not_le]; omega)
      have ew_13 : (MW a cI z st zh le tx th pa rd nu pt (wyRow z (nS z r0) wy) (itN (nS z r0) (fun s h => mrS z (wyRow z s wy) r0 s h) (mrB z r0 za)) : va_W) = (MW a cI z st zh le tx th pa rd nu pt (wyRow z (nS z r0) wy) (mixRowL z wy r0 za)) := mw_c rfl rfl rfl rfl rfl rfl rfl rfl rfl rfl rfl ec_za_12
      rw [ew_13] at hP hD
      subst hw0
      exact kq_vret hx hb hrt hlocks hP hD hS dX5_mixRow_113
    · refine lv_iconst (v := nI 0) hx hb dX5_mixRow_59 (by decide) ?_
      refine lv_istore_n (lv' := [(3, .int (nI 0)), (0, .ref (a 0)), (1, .int (nI r0)), (2, .int (nI iw))]) hx hb dX5_mixRow_60 rfl hl (by decide) rfl (fun ls hl => ?_)
      have ec_wy_14 : ((wyRow z iw wy) : ZZ) = (if 7 ≤ 0 then layF z (wyRow z iw wy) else (wyRow z iw wy)) := by first | rfl | omega | (simp [mixRowL, mrS, mrW, mrB, mrA, itN_s, wyRow, Int32.not_lt, Int32.not_le, c_5_2, Nat.not_lt.mpr c_5_2, c_56_10, Nat.not_le.mpr c_56_10]; done) | (simp [mixRowL, mrS, mrW, mrB, mrA, itN_s, wyRow, Int32.not_lt, Int32.not_le, c_5_2, Nat.not_lt.mpr c_5_2, c_56_10, Nat.not_le.mpr c_56_10]; omega) | (revert c_5_2 c_56_10; simp +contextual [mixRowL, mrS, mrW, mrB, mrA, itN_s, wyRow, Int32.not_lt, Int32.not_le]; done) | (revert c_5_2 c_56_10; simp +contextual [mixRowL, mrS, mrW, mrB, mrA, itN_s, wyRow, Int32.not_lt, Int32.not_le]; omega)
      have ec_za_15 : ((itN iw (fun s h => mrS z (wyRow z s wy) r0 s h) (mrB z r0 za)) : Int64) = (itN 0 (fun w h => mixL h (seatI z (wyRow z iw wy) r0 iw w).toInt64) (itN iw (fun s h => mrS z (wyRow z s wy) r0 s h) (mrB z r0 za))) := by first | rfl | omega | (simp [mixRowL, mrS, mrW, mrB, mrA, itN_s, wyRow, Int32.not_lt, Int32.not_le, c_5_2, Nat.not_lt.mpr c_5_2, c_56_10, Nat.not_le.mpr c_56_10]; done) | (simp [mixRowL, mrS, mrW, mrB, mrA, itN_s, wyRow, Int32.not_lt, Int32.not_le, c_5_2, Nat.not_lt.mpr c_5_2, c_56_10, Nat.not_le.mpr c_56_10]; omega) | (revert c_5_2 c_56_10; simp +contextual [mixRowL, mrS, mrW, mrB, mrA, itN_s, wyRow, Int32.not_lt, Int32.not_le]; done) | (revert c_5_2 c_56_10; simp +contextual [mixRowL, mrS, mrW, mrB, mrA, itN_s, wyRow, Int32.not_lt, Int32.not_le]; omega)
      have ew_16 : (MW a cI z st zh le tx th pa rd nu pt (wyRow z iw wy) (itN iw (fun s h => mrS z (wyRow z s wy) r0 s h) (mrB z r0 za)) : va_W) = (MW a cI z st zh le tx th pa rd nu pt (if 7 ≤ 0 then layF z (wyRow z iw wy) else (wyRow z iw wy)) (itN 0 (fun w h => mixL h (seatI z (wyRow z iw wy) r0 iw w).toInt64) (itN iw (fun s h => mrS z (wyRow z s wy) r0 s h) (mrB z r0 za)))) := mw_c rfl rfl rfl rfl rfl rfl rfl rfl rfl rfl ec_wy_14 ec_za_15
      rw [ew_16] at hP hD
      refine kx_upW (fun k H locs ls => (va_P D vwCl (MW a cI z st zh le tx th pa rd nu pt (if 7 ≤ k then layF z (wyRow z iw wy) else (wyRow z iw wy)) (itN k (fun w h => mixL h (seatI z (wyRow z iw wy) r0 iw w).toInt64) (itN iw (fun s h => mrS z (wyRow z s wy) r0 s h) (mrB z r0 za)))) H ∧ va_D (kA w0) (MW a cI z st zh le tx th pa rd nu pt (if 7 ≤ k then layF z (wyRow z iw wy) else (wyRow z iw wy)) (itN k (fun w h => mixL h (seatI z (wyRow z iw wy) r0 iw w).toInt64) (itN iw (fun s h => mrS z (wyRow z s wy) r0 s h) (mrB z r0 za)))) ∧ va_S (kA w0) s.heap H locs) ∧ lv_has ls 4 [(0, .ref (a 0)), (1, .int (nI r0)), (2, .int (nI iw)), (3, .int (nI k))]) (0) (7) (by omega) _ _ ls ⟨⟨hP, hD, hS⟩, (lv_sub hl [1, 2, 3, 0] rfl)⟩ ?_
      clear hP hD hS
      intro ix H locs ls hixl hixh hp ih61
      obtain ⟨⟨hP, hD, hS⟩, hp⟩ := hp
      have hl := hp
      refine lv_iload_n hx hb dX5_mixRow_61 rfl (lv_at hl 3 rfl) ?_
      refine lv_bipush (v := nI 7) hx hb dX5_mixRow_62 (by decide) ?_
      refine kx_icmp_ge (tgt := 85) hx hb (by omega) (by omega) dX5_mixRow_64 (by decide) (fun c_64_17 => ?_) (fun c_64_18 => ?_)
      · have hq19 : 7 = ix := by omega
        subst hq19
        refine lv_aload_n hx hb dX5_mixRow_85 rfl (lv_at hl 0 rfl) ?_
        refine lv_aload_n hx hb dX5_mixRow_86 rfl (lv_at hl 0 rfl) ?_
        refine lv_iload_n hx hb dX5_mixRow_87 rfl (lv_at hl 1 rfl) ?_
        refine lv_iload_n hx hb dX5_mixRow_88 rfl (lv_at hl 2 rfl) ?_
        refine kr_V (As := [.int (nI r0), .int (nI iw)]) (rest := [.ref (a 0)]) (C := RX5) (own := RX5) ⟨hx, hb, hml, hown, hts⟩ (c_X5_blockerOf l D cI cC cH cL a z zh tx pa (if 7 ≤ 7 then layF z (wyRow z iw wy) else (wyRow z iw wy)) st le th rd nu pt (itN 7 (fun w h => mixL h (seatI z (wyRow z iw wy) r0 iw w).toInt64) (itN iw (fun s h => mrS z (wyRow z s wy) r0 s h) (mrB z r0 za))) r0 iw (by first | assumption | omega) (by first | assumption | omega)) (cwV 2 hts gX5_mixRow_X5_blockerOf rfl rfl rfl k_X5_blockerOf ⟨Nat.le_of_ble_eq_true rfl, Nat.le_of_ble_eq_true rfl⟩) hP hK (va_recv (q := (RX5, TX5, 12)) hK hP (ci := 5) (q0 := 0) rfl rfl) rfl hl.1 rfl (Nat.le_of_ble_eq_true rfl) dX5_mixRow_89 ⟨Nat.le_of_ble_eq_true rfl, Nat.le_of_ble_eq_true rfl⟩ ?_
        refine lv_i2l hx hb dX5_mixRow_92 rfl ?_
        refine kw_V (As := [.long ((blockerI z r0 iw).toInt64)]) (rest := []) (C := RX5) (own := RX5) ⟨hx, hb, hml, hown, hts⟩ (c_X5_mix l D cI cC cH cL a z zh tx pa (if 7 ≤ 7 then layF z (wyRow z iw wy) else (wyRow z iw wy)) st le th rd nu pt (itN 7 (fun w h => mixL h (seatI z (wyRow z iw wy) r0 iw w).toInt64) (itN iw (fun s h => mrS z (wyRow z s wy) r0 s h) (mrB z r0 za))) ((blockerI z r0 iw).toInt64) ) (cwV 1 hts gX5_mixRow_X5_mix rfl rfl rfl k_X5_mix ⟨Nat.le_of_ble_eq_true rfl, Nat.le_of_ble_eq_true rfl⟩) hP hD hK hS [0, 1, 2, 3, 4, 5] [] rfl rfl (wr := []) rfl (by decide) (by decide) (by decide) (va_recv (q := (RX5, TX5, 12)) hK hP (ci := 5) (q0 := 0) rfl rfl) rfl hl.1 rfl (Nat.le_of_ble_eq_true rfl) dX5_mixRow_93 ⟨Nat.le_of_ble_eq_true rfl, Nat.le_of_ble_eq_true rfl⟩ (fun H locs hP hD hS => ?_)
        have hP : va_P D vwCl (MW a cI z st zh le tx th pa rd nu pt (if 7 ≤ 7 then layF z (wyRow z iw wy) else (wyRow z iw wy)) (mixL (itN 7 (fun w h => mixL h (seatI z (wyRow z iw wy) r0 iw w).toInt64) (itN iw (fun s h => mrS z (wyRow z s wy) r0 s h) (mrB z r0 za))) ((blockerI z r0 iw).toInt64))) H := hP
        have hD : va_D (kA w0) (MW a cI z st zh le tx th pa rd nu pt (if 7 ≤ 7 then layF z (wyRow z iw wy) else (wyRow z iw wy)) (mixL (itN 7 (fun w h => mixL h (seatI z (wyRow z iw wy) r0 iw w).toInt64) (itN iw (fun s h => mrS z (wyRow z s wy) r0 s h) (mrB z r0 za))) ((blockerI z r0 iw).toInt64))) := hD
        refine lv_aload_n hx hb dX5_mixRow_96 rfl (lv_at hl 0 rfl) ?_
        refine lv_aload_n hx hb dX5_mixRow_97 rfl (lv_at hl 0 rfl) ?_
        refine lv_iload_n hx hb dX5_mixRow_98 rfl (lv_at hl 1 rfl) ?_
        refine lv_iload_n hx hb dX5_mixRow_99 rfl (lv_at hl 2 rfl) ?_
        refine kr_V (As := [.int (nI r0), .int (nI iw)]) (rest := [.ref (a 0)]) (C := RX5) (own := RX5) ⟨hx, hb, hml, hown, hts⟩ (c_X5_takenThen l D cI cC cH cL a z zh tx pa (if 7 ≤ 7 then layF z (wyRow z iw wy) else (wyRow z iw wy)) st le th rd nu pt (mixL (itN 7 (fun w h => mixL h (seatI z (wyRow z iw wy) r0 iw w).toInt64) (itN iw (fun s h => mrS z (wyRow z s wy) r0 s h) (mrB z r0 za))) ((blockerI z r0 iw).toInt64)) r0 iw (by first | assumption | omega) (by first | assumption | omega)) (cwV 2 hts gX5_mixRow_X5_takenThen rfl rfl rfl k_X5_takenThen ⟨Nat.le_of_ble_eq_true rfl, Nat.le_of_ble_eq_true rfl⟩) hP hK (va_recv (q := (RX5, TX5, 12)) hK hP (ci := 5) (q0 := 0) rfl rfl) rfl hl.1 rfl (Nat.le_of_ble_eq_true rfl) dX5_mixRow_100 ⟨Nat.le_of_ble_eq_true rfl, Nat.le_of_ble_eq_true rfl⟩ ?_
        refine lv_i2l hx hb dX5_mixRow_103 rfl ?_
        refine kw_V (As := [.long ((nI (takThen z r0 iw)).toInt64)]) (rest := []) (C := RX5) (own := RX5) ⟨hx, hb, hml, hown, hts⟩ (c_X5_mix l D cI cC cH cL a z zh tx pa (if 7 ≤ 7 then layF z (wyRow z iw wy) else (wyRow z iw wy)) st le th rd nu pt (mixL (itN 7 (fun w h => mixL h (seatI z (wyRow z iw wy) r0 iw w).toInt64) (itN iw (fun s h => mrS z (wyRow z s wy) r0 s h) (mrB z r0 za))) ((blockerI z r0 iw).toInt64)) ((nI (takThen z r0 iw)).toInt64) ) (cwV 1 hts gX5_mixRow_X5_mix rfl rfl rfl k_X5_mix ⟨Nat.le_of_ble_eq_true rfl, Nat.le_of_ble_eq_true rfl⟩) hP hD hK hS [0, 1, 2, 3, 4, 5] [] rfl rfl (wr := []) rfl (by decide) (by decide) (by decide) (va_recv (q := (RX5, TX5, 12)) hK hP (ci := 5) (q0 := 0) rfl rfl) rfl hl.1 rfl (Nat.le_of_ble_eq_true rfl) dX5_mixRow_104 ⟨Nat.le_of_ble_eq_true rfl, Nat.le_of_ble_eq_true rfl⟩ (fun H locs hP hD hS => ?_)
        have hP : va_P D vwCl (MW a cI z st zh le tx th pa rd nu pt (if 7 ≤ 7 then layF z (wyRow z iw wy) else (wyRow z iw wy)) (mixL (mixL (itN 7 (fun w h => mixL h (seatI z (wyRow z iw wy) r0 iw w).toInt64) (itN iw (fun s h => mrS z (wyRow z s wy) r0 s h) (mrB z r0 za))) ((blockerI z r0 iw).toInt64)) ((nI (takThen z r0 iw)).toInt64))) H := hP
        have hD : va_D (kA w0) (MW a cI z st zh le tx th pa rd nu pt (if 7 ≤ 7 then layF z (wyRow z iw wy) else (wyRow z iw wy)) (mixL (mixL (itN 7 (fun w h => mixL h (seatI z (wyRow z iw wy) r0 iw w).toInt64) (itN iw (fun s h => mrS z (wyRow z s wy) r0 s h) (mrB z r0 za))) ((blockerI z r0 iw).toInt64)) ((nI (takThen z r0 iw)).toInt64))) := hD
        refine lv_iinc (v := nI (iw + 1)) (lv' := [(2, .int (nI (iw + 1))), (0, .ref (a 0)), (1, .int (nI r0)), (3, .int (nI 7))]) hx hb dX5_mixRow_107 hl (k := 2) rfl (kx_inc 1) (by decide) rfl (fun ls hl => ?_)
        refine lv_goto (tgt := 49) hx hb dX5_mixRow_110 (by decide) ?_
        have e49_20 : (iw + 1 : Nat) = ((iw + 1)) := by first | rfl | omega | (simp [mixRowL, mrS, mrW, mrB, mrA, itN_s, wyRow, Int32.not_lt, Int32.not_le, c_5_2, Nat.not_lt.mpr c_5_2, c_56_10, Nat.not_le.mpr c_56_10, c_64_17, Nat.not_lt.mpr c_64_17]; done) | (simp [mixRowL, mrS, mrW, mrB, mrA, itN_s, wyRow, Int32.not_lt, Int32.not_le, c_5_2, Nat.not_lt.mpr c_5_2, c_56_10, Nat.not_le.mpr c_56_10, c_64_17, Nat.not_lt.mpr c_64_17]; omega) | (revert c_5_2 c_56_10 c_64_17; simp +contextual [mixRowL, mrS, mrW, mrB, mrA, itN_s, wyRow, Int32.not_lt, Int32.not_le]; done) | (revert c_5_2 c_56_10 c_64_17; simp +contextual [mixRowL, mrS, mrW, mrB, mrA, itN_s, wyRow, Int32.not_lt, Int32.not_le]; omega)
        have hl49_21 : lv_has ls 4 [(0, .ref (a 0)), (1, .int (nI r0)), (2, .int (nI (iw + 1)))] := lv_eqv (l1 := [(0, .ref (a 0)), (1, .int (nI r0)), (2, .int (nI (iw + 1)))]) (lv_sub hl [1, 2, 0] rfl) (lv_ce rfl (lv_ce rfl (lv_ce (congrArg (fun x => Value.int (nI x)) e49_20) rfl)))
        have ec_wy_22 : ((if 7 ≤ 7 then layF z (wyRow z iw wy) else (wyRow z iw wy)) : ZZ) = (wyRow z (iw + 1) wy) := by rfl
        have ec_za_23 : ((mixL (mixL (itN 7 (fun w h => mixL h (seatI z (wyRow z iw wy) r0 iw w).toInt64) (itN iw (fun s h => mrS z (wyRow z s wy) r0 s h) (mrB z r0 za))) ((blockerI z r0 iw).toInt64)) ((nI (takThen z r0 iw)).toInt64)) : Int64) = (itN (iw + 1) (fun s h => mrS z (wyRow z s wy) r0 s h) (mrB z r0 za)) := by rfl
        have ew_24 : (MW a cI z st zh le tx th pa rd nu pt (if 7 ≤ 7 then layF z (wyRow z iw wy) else (wyRow z iw wy)) (mixL (mixL (itN 7 (fun w h => mixL h (seatI z (wyRow z iw wy) r0 iw w).toInt64) (itN iw (fun s h => mrS z (wyRow z s wy) r0 s h) (mrB z r0 za))) ((blockerI z r0 iw).toInt64)) ((nI (takThen z r0 iw)).toInt64)) : va_W) = (MW a cI z st zh le tx th pa rd nu pt (wyRow z (iw + 1) wy) (itN (iw + 1) (fun s h => mrS z (wyRow z s wy) r0 s h) (mrB z r0 za))) := mw_c rfl rfl rfl rfl rfl rfl rfl rfl rfl rfl ec_wy_22 ec_za_23
        rw [ew_24] at hP hD
        exact ih49 _ _ _ (by omega) ⟨⟨hP, hD, hS⟩, hl49_21⟩
      · have ec_wy_25 : ((if 7 ≤ ix then layF z (wyRow z iw wy) else (wyRow z iw wy)) : ZZ) = (wyRow z iw wy) := by rw [if_neg (by omega)]
        have ew_26 : (MW a cI z st zh le tx th pa rd nu pt (if 7 ≤ ix then layF z (wyRow z iw wy) else (wyRow z iw wy)) (itN ix (fun w h => mixL h (seatI z (wyRow z iw wy) r0 iw w).toInt64) (itN iw (fun s h => mrS z (wyRow z s wy) r0 s h) (mrB z r0 za))) : va_W) = (MW a cI z st zh le tx th pa rd nu pt (wyRow z iw wy) (itN ix (fun w h => mixL h (seatI z (wyRow z iw wy) r0 iw w).toInt64) (itN iw (fun s h => mrS z (wyRow z s wy) r0 s h) (mrB z r0 za)))) := mw_c rfl rfl rfl rfl rfl rfl rfl rfl rfl rfl ec_wy_25 rfl
        rw [ew_26] at hP hD
        refine lv_aload_n hx hb dX5_mixRow_67 rfl (lv_at hl 0 rfl) ?_
        refine lv_aload_n hx hb dX5_mixRow_68 rfl (lv_at hl 0 rfl) ?_
        refine lv_iload_n hx hb dX5_mixRow_69 rfl (lv_at hl 1 rfl) ?_
        refine lv_iload_n hx hb dX5_mixRow_70 rfl (lv_at hl 2 rfl) ?_
        refine lv_iload_n hx hb dX5_mixRow_71 rfl (lv_at hl 3 rfl) ?_
        refine kw_V (As := [.int (nI r0), .int (nI iw), .int (nI ix)]) (rest := [.ref (a 0)]) (C := RX5) (own := RX5) ⟨hx, hb, hml, hown, hts⟩ (c_X5_seatNow l D cI cC cH cL a z zh tx pa (wyRow z iw wy) st le th rd nu pt (itN ix (fun w h => mixL h (seatI z (wyRow z iw wy) r0 iw w).toInt64) (itN iw (fun s h => mrS z (wyRow z s wy) r0 s h) (mrB z r0 za))) r0 iw ix (by first | assumption | omega) (by first | assumption | omega) (by first | assumption | omega) (by first | assumption | omega)) (cwV 3 hts gX5_mixRow_X5_seatNow rfl rfl rfl k_X5_seatNow ⟨Nat.le_of_ble_eq_true rfl, Nat.le_of_ble_eq_true rfl⟩) hP hD hK hS [0, 1, 2, 3, 4, 5] [] rfl rfl (wr := []) rfl (by decide) (by decide) (by decide) (va_recv (q := (RX5, TX5, 12)) hK hP (ci := 5) (q0 := 0) rfl rfl) rfl hl.1 rfl (Nat.le_of_ble_eq_true rfl) dX5_mixRow_72 ⟨Nat.le_of_ble_eq_true rfl, Nat.le_of_ble_eq_true rfl⟩ (fun H locs hP hD hS => ?_)
        have hP : va_P D vwCl (MW a cI z st zh le tx th pa rd nu pt (seatWy z (wyRow z iw wy) ix) (itN ix (fun w h => mixL h (seatI z (wyRow z iw wy) r0 iw w).toInt64) (itN iw (fun s h => mrS z (wyRow z s wy) r0 s h) (mrB z r0 za)))) H := hP
        have hD : va_D (kA w0) (MW a cI z st zh le tx th pa rd nu pt (seatWy z (wyRow z iw wy) ix) (itN ix (fun w h => mixL h (seatI z (wyRow z iw wy) r0 iw w).toInt64) (itN iw (fun s h => mrS z (wyRow z s wy) r0 s h) (mrB z r0 za)))) := hD
        refine lv_i2l hx hb dX5_mixRow_75 rfl ?_
        refine kw_V (As := [.long ((seatI z (wyRow z iw wy) r0 iw ix).toInt64)]) (rest := []) (C := RX5) (own := RX5) ⟨hx, hb, hml, hown, hts⟩ (c_X5_mix l D cI cC cH cL a z zh tx pa (seatWy z (wyRow z iw wy) ix) st le th rd nu pt (itN ix (fun w h => mixL h (seatI z (wyRow z iw wy) r0 iw w).toInt64) (itN iw (fun s h => mrS z (wyRow z s wy) r0 s h) (mrB z r0 za))) ((seatI z (wyRow z iw wy) r0 iw ix).toInt64) ) (cwV 1 hts gX5_mixRow_X5_mix rfl rfl rfl k_X5_mix ⟨Nat.le_of_ble_eq_true rfl, Nat.le_of_ble_eq_true rfl⟩) hP hD hK hS [0, 1, 2, 3, 4, 5] [] rfl rfl (wr := []) rfl (by decide) (by decide) (by decide) (va_recv (q := (RX5, TX5, 12)) hK hP (ci := 5) (q0 := 0) rfl rfl) rfl hl.1 rfl (Nat.le_of_ble_eq_true rfl) dX5_mixRow_76 ⟨Nat.le_of_ble_eq_true rfl, Nat.le_of_ble_eq_true rfl⟩ (fun H locs hP hD hS => ?_)
        have hP : va_P D vwCl (MW a cI z st zh le tx th pa rd nu pt (seatWy z (wyRow z iw wy) ix) (mixL (itN ix (fun w h => mixL h (seatI z (wyRow z iw wy) r0 iw w).toInt64) (itN iw (fun s h => mrS z (wyRow z s wy) r0 s h) (mrB z r0 za))) ((seatI z (wyRow z iw wy) r0 iw ix).toInt64))) H := hP
        have hD : va_D (kA w0) (MW a cI z st zh le tx th pa rd nu pt (seatWy z (wyRow z iw wy) ix) (mixL (itN ix (fun w h => mixL h (seatI z (wyRow z iw wy) r0 iw w).toInt64) (itN iw (fun s h => mrS z (wyRow z s wy) r0 s h) (mrB z r0 za))) ((seatI z (wyRow z iw wy) r0 iw ix).toInt64))) := hD
        refine lv_iinc (v := nI (ix + 1)) (lv' := [(3, .int (nI (ix + 1))), (0, .ref (a 0)), (1, .int (nI r0)), (2, .int (nI iw))]) hx hb dX5_mixRow_79 hl (k := 3) rfl (kx_inc 1) (by decide) rfl (fun ls hl => ?_)
        refine lv_goto (tgt := 61) hx hb dX5_mixRow_82 (by decide) ?_
        have e61_27 : (ix + 1 : Nat) = ((ix + 1)) := by first | rfl | omega | (simp [mixRowL, mrS, mrW, mrB, mrA, itN_s, wyRow, Int32.not_lt, Int32.not_le, c_5_2, Nat.not_lt.mpr c_5_2, c_56_10, Nat.not_le.mpr c_56_10, c_64_18, Nat.not_le.mpr c_64_18]; done) | (simp [mixRowL, mrS, mrW, mrB, mrA, itN_s, wyRow, Int32.not_lt, Int32.not_le, c_5_2, Nat.not_lt.mpr c_5_2, c_56_10, Nat.not_le.mpr c_56_10, c_64_18, Nat.not_le.mpr c_64_18]; omega) | (revert c_5_2 c_56_10 c_64_18; simp +contextual [mixRowL, mrS, mrW, mrB, mrA, itN_s, wyRow, Int32.not_lt, Int32.not_le]; done) | (revert c_5_2 c_56_10 c_64_18; simp +contextual [mixRowL, mrS, mrW, mrB, mrA, itN_s, wyRow, Int32.not_lt, Int32.not_le]; omega)
        have hl61_28 : lv_has ls 4 [(0, .ref (a 0)), (1, .int (nI r0)), (2, .int (nI iw)), (3, .int (nI (ix + 1)))] := lv_eqv (l1 := [(0, .ref (a 0)), (1, .int (nI r0)), (2, .int (nI iw)), (3, .int (nI (ix + 1)))]) (lv_sub hl [1, 2, 3, 0] rfl) (lv_ce rfl (lv_ce rfl (lv_ce rfl (lv_ce (congrArg (fun x => Value.int (nI x)) e61_27) rfl))))
        have ec_wy_29 : ((seatWy z (wyRow z iw wy) ix) : ZZ) = (if 7 ≤ (ix + 1) then layF z (wyRow z iw wy) else (wyRow z iw wy)) := by unfold seatWy; by_cases q6 : ix = 6 <;> simp [q6] <;> omega
        have ec_za_30 : ((mixL (itN ix (fun w h => mixL h (seatI z (wyRow z iw wy) r0 iw w).toInt64) (itN iw (fun s h => mrS z (wyRow z s wy) r0 s h) (mrB z r0 za))) ((seatI z (wyRow z iw wy) r0 iw ix).toInt64)) : Int64) = (itN (ix + 1) (fun w h => mixL h (seatI z (wyRow z iw wy) r0 iw w).toInt64) (itN iw (fun s h => mrS z (wyRow z s wy) r0 s h) (mrB z r0 za))) := by rfl
        have ew_31 : (MW a cI z st zh le tx th pa rd nu pt (seatWy z (wyRow z iw wy) ix) (mixL (itN ix (fun w h => mixL h (seatI z (wyRow z iw wy) r0 iw w).toInt64) (itN iw (fun s h => mrS z (wyRow z s wy) r0 s h) (mrB z r0 za))) ((seatI z (wyRow z iw wy) r0 iw ix).toInt64)) : va_W) = (MW a cI z st zh le tx th pa rd nu pt (if 7 ≤ (ix + 1) then layF z (wyRow z iw wy) else (wyRow z iw wy)) (itN (ix + 1) (fun w h => mixL h (seatI z (wyRow z iw wy) r0 iw w).toInt64) (itN iw (fun s h => mrS z (wyRow z s wy) r0 s h) (mrB z r0 za)))) := mw_c rfl rfl rfl rfl rfl rfl rfl rfl rfl rfl ec_wy_29 ec_za_30
        rw [ew_31] at hP hD
        exact ih61 _ _ _ (by omega) ⟨⟨hP, hD, hS⟩, hl61_28⟩
  · refine lv_aload_n hx hb dX5_mixRow_8 rfl (lv_at hl 0 rfl) ?_
    refine lv_aload_n hx hb dX5_mixRow_9 rfl (lv_at hl 0 rfl) ?_
    refine lv_iload_n hx hb dX5_mixRow_10 rfl (lv_at hl 1 rfl) ?_
    refine lv_iload_n hx hb dX5_mixRow_11 rfl (lv_at hl 2 rfl) ?_
    refine kr_V (As := [.int (nI r0), .int (nI ix)]) (rest := [.ref (a 0)]) (C := RX5) (own := RX5) ⟨hx, hb, hml, hown, hts⟩ (c_X5_rowNow l D cI cC cH cL a z zh tx pa wy st le th rd nu pt (itN ix (fun w h => mixL h (rowNowI z r0 w).toInt64) za) r0 ix (by first | assumption | omega) (by first | assumption | omega) (by first | assumption | omega)) (cwV 2 hts gX5_mixRow_X5_rowNow rfl rfl rfl k_X5_rowNow ⟨Nat.le_of_ble_eq_true rfl, Nat.le_of_ble_eq_true rfl⟩) hP hK (va_recv (q := (RX5, TX5, 12)) hK hP (ci := 5) (q0 := 0) rfl rfl) rfl hl.1 rfl (Nat.le_of_ble_eq_true rfl) dX5_mixRow_12 ⟨Nat.le_of_ble_eq_true rfl, Nat.le_of_ble_eq_true rfl⟩ ?_
    refine lv_i2l hx hb dX5_mixRow_15 rfl ?_
    refine kw_V (As := [.long ((rowNowI z r0 ix).toInt64)]) (rest := []) (C := RX5) (own := RX5) ⟨hx, hb, hml, hown, hts⟩ (c_X5_mix l D cI cC cH cL a z zh tx pa wy st le th rd nu pt (itN ix (fun w h => mixL h (rowNowI z r0 w).toInt64) za) ((rowNowI z r0 ix).toInt64) ) (cwV 1 hts gX5_mixRow_X5_mix rfl rfl rfl k_X5_mix ⟨Nat.le_of_ble_eq_true rfl, Nat.le_of_ble_eq_true rfl⟩) hP hD hK hS [0, 1, 2, 3, 4, 5] [] rfl rfl (wr := []) rfl (by decide) (by decide) (by decide) (va_recv (q := (RX5, TX5, 12)) hK hP (ci := 5) (q0 := 0) rfl rfl) rfl hl.1 rfl (Nat.le_of_ble_eq_true rfl) dX5_mixRow_16 ⟨Nat.le_of_ble_eq_true rfl, Nat.le_of_ble_eq_true rfl⟩ (fun H locs hP hD hS => ?_)
    have hP : va_P D vwCl (MW a cI z st zh le tx th pa rd nu pt wy (mixL (itN ix (fun w h => mixL h (rowNowI z r0 w).toInt64) za) ((rowNowI z r0 ix).toInt64))) H := hP
    have hD : va_D (kA w0) (MW a cI z st zh le tx th pa rd nu pt wy (mixL (itN ix (fun w h => mixL h (rowNowI z r0 w).toInt64) za) ((rowNowI z r0 ix).toInt64))) := hD
    refine lv_iinc (v := nI (ix + 1)) (lv' := [(2, .int (nI (ix + 1))), (0, .ref (a 0)), (1, .int (nI r0))]) hx hb dX5_mixRow_19 hl (k := 2) rfl (kx_inc 1) (by decide) rfl (fun ls hl => ?_)
    refine lv_goto (tgt := 2) hx hb dX5_mixRow_22 (by decide) ?_
    have e2_32 : (ix + 1 : Nat) = ((ix + 1)) := by first | rfl | omega | (simp [mixRowL, mrS, mrW, mrB, mrA, itN_s, wyRow, Int32.not_lt, Int32.not_le, c_5_3, Nat.not_le.mpr c_5_3]; done) | (simp [mixRowL, mrS, mrW, mrB, mrA, itN_s, wyRow, Int32.not_lt, Int32.not_le, c_5_3, Nat.not_le.mpr c_5_3]; omega) | (revert c_5_3; simp +contextual [mixRowL, mrS, mrW, mrB, mrA, itN_s, wyRow, Int32.not_lt, Int32.not_le]; done) | (revert c_5_3; simp +contextual [mixRowL, mrS, mrW, mrB, mrA, itN_s, wyRow, Int32.not_lt, Int32.not_le]; omega)
    have hl2_33 : lv_has ls 4 [(0, .ref (a 0)), (1, .int (nI r0)), (2, .int (nI (ix + 1)))] := lv_eqv (l1 := [(0, .ref (a 0)), (1, .int (nI r0)), (2, .int (nI (ix + 1)))]) (lv_sub hl [1, 2, 0] rfl) (lv_ce rfl (lv_ce rfl (lv_ce (congrArg (fun x => Value.int (nI x)) e2_32) rfl)))
    have ec_za_34 : ((mixL (itN ix (fun w h => mixL h (rowNowI z r0 w).toInt64) za) ((rowNowI z r0 ix).toInt64)) : Int64) = (itN (ix + 1) (fun w h => mixL h (rowNowI z r0 w).toInt64) za) := by rfl
    have ew_35 : (MW a cI z st zh le tx th pa rd nu pt wy (mixL (itN ix (fun w h => mixL h (rowNowI z r0 w).toInt64) za) ((rowNowI z r0 ix).toInt64)) : va_W) = (MW a cI z st zh le tx th pa rd nu pt wy (itN (ix + 1) (fun w h => mixL h (rowNowI z r0 w).toInt64) za)) := mw_c rfl rfl rfl rfl rfl rfl rfl rfl rfl rfl rfl ec_za_34
    rw [ew_35] at hP hD
    exact ih2 _ _ _ (by omega) ⟨⟨hP, hD, hS⟩, hl2_33⟩
