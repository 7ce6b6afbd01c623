theorem k_X0_vacateAll : yX0_vacateAll.cls = RX0 ∧ yX0_vacateAll.cls ≠ "java/lang/invoke/MethodHandle" ∧ yX0_vacateAll.cls ≠ "java/lang/invoke/VarHandle" ∧ (parseMethodDescriptor yX0_vacateAll.desc).map (fun d => d.parameters.length) = some 0 := by decide +kernel
theorem k_X0_vacateAllS : yX0_vacateAll.cls ≠ "java/lang/invoke/MethodHandle" ∧ yX0_vacateAll.cls ≠ "java/lang/invoke/VarHandle" ∧ (parseMethodDescriptor yX0_vacateAll.desc).map (fun d => d.parameters.length) = some 0 := k_X0_vacateAll.2
theorem k_X3_columnToRemove : yX3_columnToRemove.cls = RX3 ∧ yX3_columnToRemove.cls ≠ "java/lang/invoke/MethodHandle" ∧ yX3_columnToRemove.cls ≠ "java/lang/invoke/VarHandle" ∧ (parseMethodDescriptor yX3_columnToRemove.desc).map (fun d => d.parameters.length) = some 0 := by decide +kernel
theorem k_X3_columnToRemoveS : yX3_columnToRemove.cls ≠ "java/lang/invoke/MethodHandle" ∧ yX3_columnToRemove.cls ≠ "java/lang/invoke/VarHandle" ∧ (parseMethodDescriptor yX3_columnToRemove.desc).map (fun d => d.parameters.length) = some 0 := k_X3_columnToRemove.2
theorem k_X4_saveState : yX4_saveState.cls = RX4 ∧ yX4_saveState.cls ≠ "java/lang/invoke/MethodHandle" ∧ yX4_saveState.cls ≠ "java/lang/invoke/VarHandle" ∧ (parseMethodDescriptor yX4_saveState.desc).map (fun d => d.parameters.length) = some 0 := by decide +kernel
theorem k_X4_saveStateS : yX4_saveState.cls ≠ "java/lang/invoke/MethodHandle" ∧ yX4_saveState.cls ≠ "java/lang/invoke/VarHandle" ∧ (parseMethodDescriptor yX4_saveState.desc).map (fun d => d.parameters.length) = some 0 := k_X4_saveState.2
theorem k_X4_shareOfSeeing : yX4_shareOfSeeing.cls = RX4 ∧ yX4_shareOfSeeing.cls ≠ "java/lang/invoke/MethodHandle" ∧ yX4_shareOfSeeing.cls ≠ "java/lang/invoke/VarHandle" ∧ (parseMethodDescriptor yX4_shareOfSeeing.desc).map (fun d => d.parameters.length) = some 0 := by decide +kernel
theorem k_X4_shareOfSeeingS : yX4_shareOfSeeing.cls ≠ "java/lang/invoke/MethodHandle" ∧ yX4_shareOfSeeing.cls ≠ "java/lang/invoke/VarHandle" ∧ (parseMethodDescriptor yX4_shareOfSeeing.desc).map (fun d => d.parameters.length) = some 0 := k_X4_shareOfSeeing.2
set_option maxRecDepth 20000 in
theorem iX4_clear_4 : ∀ w ∈ wsX40, w ∈ wsX4_clear := by decide +kernel
set_option maxHeartbeats 4000000 in
set_option maxRecDepth 100000 in
theorem c_X4_clear (l : Launch) (D : va_G) (cI cC cH cL : ClassId) (x b v u o h t : Nat → Nat) (z : ZZ) (lk : Bool) (pe cn rk : ZZ) (kb : Nat → Nat → Nat) (nk : Nat) (q : Nat → ZZ)  (hw : WF z) (hv : VT z) (hn : nk ≤ 6) : Met l yX4_clear wsX4_clear ({ frames := 4, cells := 0, slots := 0, locals := 122 }) (kw [.ref (x 0)] D ([(x 0, .inr (4, [.ref (b 0), .ref (v 0), .ref (u 0), .ref (o 0), .ref (h 0), .ref (t 0)]))] ++ (HW b cI z ++ (SW v (b 0) cI (bI lk) pe cn rk ++ (KWz h kb cI cH (nI nk) (fun i => some (kb i 0)) (q 0) (q 1) (q 2) (q 3) (q 4) (q 5))))) (kT cI cC cH cL)) (kq D ([(x 0, .inr (4, [.ref (b 0), .ref (v 0), .ref (u 0), .ref (o 0), .ref (h 0), .ref (t 0)]))] ++ (HW b cI z ++ (SW v (b 0) cI (bI lk) pe cn rk ++ (KWz h kb cI cH (nI nk) (fun i => some (kb i 0)) (q 0) (q 1) (q 2) (q 3) (q 4) (q 5))))) ([(x 0, .inr (4, [.ref (b 0), .ref (v 0), .ref (u 0), .ref (o 0), .ref (h 0), .ref (t 0)]))] ++ (HW b cI (clrZ z) ++ (SW v (b 0) cI (bI false) pe cn rk ++ (KWz h (kbK nk kb) cI cH (nI (nK nk)) (fun i => some ((kbK nk kb) i 0)) ((qK nk q z) 0) ((qK nk q z) 1) ((qK nk q z) 2) ((qK nk q z) 3) ((qK nk q z) 4) ((qK nk q z) 5))))) (.returned (some (.int (nI (takenAll z)))))) 0 0 (kA ([(x 0, .inr (4, [.ref (b 0), .ref (v 0), .ref (u 0), .ref (o 0), .ref (h 0), .ref (t 0)]))] ++ (HW b cI z ++ (SW v (b 0) cI (bI lk) pe cn rk ++ (KWz h kb cI cH (nI nk) (fun i => some (kb i 0)) (q 0) (q 1) (q 2) (q 3) (q 4) (q 5)))))) := by
  refine Met.ofW (cc := cX4_clear) (maxL := 2) (ret := (some .int)) (by decide) rfl ?_
  intro p e s m args below meth c s₁ B hml hv
  obtain ⟨rfl, hP, hK, hD0⟩ := hv
  have hx := B.exec
  have hb := B.bytes
  have hrt := B.returns
  have hts := atoms_spec (ws := wsX4_clear) B.pre
  have hown : s.vm.findClass RX4 = some m.cls := findClass_of_methodNamed B.named
  have hlocks := B.notSynchronized
  have hl := lv_entry ([.ref (x 0)]) (n := 2) (Nat.le_of_ble_eq_true rfl)
  rw [lg_entry_eq]
  generalize (lg_sl ([.ref (x 0)]) ++ List.replicate (2 - (lg_sl ([.ref (x 0)])).length) Slot.unset).toArray = ls at hl ⊢
  have hl : lv_has ls 2 [(0, .ref (x 0))] := hl
  have hD := kA_self hD0
  obtain ⟨w0, hw0⟩ : ∃ w : va_W, w = [(x 0, .inr (4, [.ref (b 0), .ref (v 0), .ref (u 0), .ref (o 0), .ref (h 0), .ref (t 0)]))] ++ (HW b cI z ++ (SW v (b 0) cI (bI lk) pe cn rk ++ (KWz h kb cI cH (nI nk) (fun i => some (kb i 0)) (q 0) (q 1) (q 2) (q 3) (q 4) (q 5)))) := ⟨_, rfl⟩
  have hD : va_D (kA w0) ([(x 0, .inr (4, [.ref (b 0), .ref (v 0), .ref (u 0), .ref (o 0), .ref (h 0), .ref (t 0)]))] ++ (HW b cI z ++ (SW v (b 0) cI (bI lk) pe cn rk ++ (KWz h kb cI cH (nI nk) (fun i => some (kb i 0)) (q 0) (q 1) (q 2) (q 3) (q 4) (q 5))))) := by rw [hw0]; exact hD
  have hS : va_S (kA w0) s.heap s.heap [] := va_S.rf
  rw [show kA ([(x 0, .inr (4, [.ref (b 0), .ref (v 0), .ref (u 0), .ref (o 0), .ref (h 0), .ref (t 0)]))] ++ (HW b cI z ++ (SW v (b 0) cI (bI lk) pe cn rk ++ (KWz h kb cI cH (nI nk) (fun i => some (kb i 0)) (q 0) (q 1) (q 2) (q 3) (q 4) (q 5))))) = kA w0 from by rw [hw0], show kq D ([(x 0, .inr (4, [.ref (b 0), .ref (v 0), .ref (u 0), .ref (o 0), .ref (h 0), .ref (t 0)]))] ++ (HW b cI z ++ (SW v (b 0) cI (bI lk) pe cn rk ++ (KWz h kb cI cH (nI nk) (fun i => some (kb i 0)) (q 0) (q 1) (q 2) (q 3) (q 4) (q 5))))) = kq D w0 from by rw [hw0]]
  have hP : va_P D vwCl ([(x 0, .inr (4, [.ref (b 0), .ref (v 0), .ref (u 0), .ref (o 0), .ref (h 0), .ref (t 0)]))] ++ (HW b cI z ++ (SW v (b 0) cI (bI lk) pe cn rk ++ (KWz h kb cI cH (nI nk) (fun i => some (kb i 0)) (q 0) (q 1) (q 2) (q 3) (q 4) (q 5))))) s.heap := hP
  have hR10 := wf_R10 hw
  have hC4 := wf_C4 hw
  refine lv_aload_n hx hb dX4_clear_0 rfl (lv_at hl 0 rfl) ?_
  refine kw_V (As := []) (rest := []) (C := RX4) (own := RX4) ⟨hx, hb, hml, hown, hts⟩ (c_X4_saveState l D cI cC cH cL x b v u o h t z lk pe cn rk kb nk q  (by first | assumption | omega)) (cwV 0 hts gX4_clear_X4_saveState rfl rfl rfl k_X4_saveState ⟨Nat.le_of_ble_eq_true rfl, Nat.le_of_ble_eq_true rfl⟩) hP hD hK hS (0 :: 1 :: 2 :: 3 :: 4 :: 5 :: 6 :: 7 :: 8 :: 9 :: 10 :: 11 :: 12 :: 13 :: 14 :: 15 :: 16 :: 17 :: 18 :: 19 :: 20 :: 21 :: 22 :: 23 :: 24 :: 25 :: 26 :: 27 :: 28 :: 29 :: 30 :: 31 :: 32 :: 33 :: 34 :: 35 :: 36 :: 37 :: 38 :: 39 :: 40 :: 41 :: 42 :: 43 :: 44 :: 45 :: 46 :: 47 :: 48 :: 49 :: 50 :: 51 :: 52 :: 53 :: 54 :: 55 :: 56 :: 57 :: 58 :: 59 :: 60 :: 61 :: 62 :: 63 :: 64 :: 65 :: 66 :: 67 :: 68 :: 69 :: []) [] rfl rfl (wr := []) rfl (by decide) (by decide) (by decide) (va_recv (q := (RX4, TX4, 6)) hK hP (ci := 4) (q0 := 0) rfl rfl) rfl hl.1 rfl (Nat.le_of_ble_eq_true rfl) dX4_clear_1 ⟨Nat.le_of_ble_eq_true rfl, Nat.le_of_ble_eq_true rfl⟩ (fun H locs hP hD hS => ?_)
  have hP : va_P D vwCl ([(x 0, .inr (4, [.ref (b 0), .ref (v 0), .ref (u 0), .ref (o 0), .ref (h 0), .ref (t 0)]))] ++ (HW b cI z ++ (SW v (b 0) cI (bI false) pe cn rk ++ (KWz h (kbK nk kb) cI cH (nI (nK nk)) (fun i => some ((kbK nk kb) i 0)) ((qK nk q z) 0) ((qK nk q z) 1) ((qK nk q z) 2) ((qK nk q z) 3) ((qK nk q z) 4) ((qK nk q z) 5))))) H := hP
  have hD : va_D (kA w0) ([(x 0, .inr (4, [.ref (b 0), .ref (v 0), .ref (u 0), .ref (o 0), .ref (h 0), .ref (t 0)]))] ++ (HW b cI z ++ (SW v (b 0) cI (bI false) pe cn rk ++ (KWz h (kbK nk kb) cI cH (nI (nK nk)) (fun i => some ((kbK nk kb) i 0)) ((qK nk q z) 0) ((qK nk q z) 1) ((qK nk q z) 2) ((qK nk q z) 3) ((qK nk q z) 4) ((qK nk q z) 5))))) := hD
  refine lv_aload_n hx hb dX4_clear_4 rfl (lv_at hl 0 rfl) ?_
  refine va_get (D := D) (ci := 4) (v := .ref (b 0)) (C := RX4) (T := TX4) (N := 6) hx hb hts iX4_clear_4 hown hK hP 0 rfl rfl 0 (by decide) (hts (.fieldLink RX4 10 "HallSights" "hall" "LHallSights$Hall;") (List.mem_of_getElem? (i := 1) rfl)) (fun _ h9 => h9) rfl dX4_clear_5 ?_
  refine kr_V (As := []) (rest := []) (C := RX0) (own := RX4) ⟨hx, hb, hml, hown, hts⟩ (c_X0_takenInAll l D cI cC cH cL b z  (by first | assumption | omega) (by first | assumption | omega)) (cwV 0 hts gX4_clear_X0_takenInAll rfl rfl rfl k_X0_takenInAll ⟨Nat.le_of_ble_eq_true rfl, Nat.le_of_ble_eq_true rfl⟩) (hP.sub (ws' := (HW b cI z)) [1, 2, 3, 4, 5, 6, 7, 8, 9] rfl) hK (va_recv (q := (RX0, TX0, 10)) hK hP (ci := 0) (q0 := 1) rfl rfl) rfl hl.1 rfl (Nat.le_of_ble_eq_true rfl) dX4_clear_8 ⟨Nat.le_of_ble_eq_true rfl, Nat.le_of_ble_eq_true rfl⟩ ?_
  refine lv_istore_n (lv' := [(1, .int (nI (takenAll z))), (0, .ref (x 0))]) hx hb dX4_clear_11 rfl hl (by decide) rfl (fun ls hl => ?_)
  refine lv_aload_n hx hb dX4_clear_12 rfl (lv_at hl 1 rfl) ?_
  refine va_get (D := D) (ci := 4) (v := .ref (b 0)) (C := RX4) (T := TX4) (N := 6) hx hb hts iX4_clear_4 hown hK hP 0 rfl rfl 0 (by decide) (hts (.fieldLink RX4 10 "HallSights" "hall" "LHallSights$Hall;") (List.mem_of_getElem? (i := 1) rfl)) (fun _ h9 => h9) rfl dX4_clear_13 ?_
  refine kw_V (As := []) (rest := []) (C := RX0) (own := RX4) ⟨hx, hb, hml, hown, hts⟩ (c_X0_vacateAll l D cI cC cH cL b z  (by first | assumption | omega)) (cwV 0 hts gX4_clear_X0_vacateAll rfl rfl rfl k_X0_vacateAll ⟨Nat.le_of_ble_eq_true rfl, Nat.le_of_ble_eq_true rfl⟩) hP hD hK hS [1, 2, 3, 4, 5, 6, 7, 8, 9] (0 :: 10 :: 11 :: 12 :: 13 :: 14 :: 15 :: 16 :: 17 :: 18 :: 19 :: 20 :: 21 :: 22 :: 23 :: 24 :: 25 :: 26 :: 27 :: 28 :: 29 :: 30 :: 31 :: 32 :: 33 :: 34 :: 35 :: 36 :: 37 :: 38 :: 39 :: 40 :: 41 :: 42 :: 43 :: 44 :: 45 :: 46 :: 47 :: 48 :: 49 :: 50 :: 51 :: 52 :: 53 :: 54 :: 55 :: 56 :: 57 :: 58 :: 59 :: 60 :: 61 :: 62 :: 63 :: 64 :: 65 :: 66 :: 67 :: 68 :: 69 :: []) rfl rfl (wr := ([(x 0, .inr (4, [.ref (b 0), .ref (v 0), .ref (u 0), .ref (o 0), .ref (h 0), .ref (t 0)]))] ++ (SW v (b 0) cI (bI false) pe cn rk ++ ([(h 0, .inr (1, [.ref (h 1), .int (nI (nK nk))])), (h 1, .inl (cH, 6, .inr (.inr (.inr (.inr (fun i => some ((kbK nk kb) i 0)))))))] ++ (HW ((kbK nk kb) 0) cI ((qK nk q z) 0) ++ (HW ((kbK nk kb) 1) cI ((qK nk q z) 1) ++ (HW ((kbK nk kb) 2) cI ((qK nk q z) 2) ++ (HW ((kbK nk kb) 3) cI ((qK nk q z) 3) ++ (HW ((kbK nk kb) 4) cI ((qK nk q z) 4) ++ (HW ((kbK nk kb) 5) cI ((qK nk q z) 5))))))))))) rfl (by decide) (by decide) (by decide) (va_recv (q := (RX0, TX0, 10)) hK hP (ci := 0) (q0 := 1) rfl rfl) rfl hl.1 rfl (Nat.le_of_ble_eq_true rfl) dX4_clear_16 ⟨Nat.le_of_ble_eq_true rfl, Nat.le_of_ble_eq_true rfl⟩ (fun H locs hP hD hS => ?_)
  have hP : va_P D vwCl ([(x 0, .inr (4, [.ref (b 0), .ref (v 0), .ref (u 0), .ref (o 0), .ref (h 0), .ref (t 0)]))] ++ (HW b cI (clrZ z) ++ (SW v (b 0) cI (bI false) pe cn rk ++ (KWz h (kbK nk kb) cI cH (nI (nK nk)) (fun i => some ((kbK nk kb) i 0)) ((qK nk q z) 0) ((qK nk q z) 1) ((qK nk q z) 2) ((qK nk q z) 3) ((qK nk q z) 4) ((qK nk q z) 5))))) H := hP.sub (0 :: 61 :: 62 :: 63 :: 64 :: 65 :: 66 :: 67 :: 68 :: 69 :: 1 :: 2 :: 3 :: 4 :: 5 :: 6 :: 7 :: 8 :: 9 :: 10 :: 11 :: 12 :: 13 :: 14 :: 15 :: 16 :: 17 :: 18 :: 19 :: 20 :: 21 :: 22 :: 23 :: 24 :: 25 :: 26 :: 27 :: 28 :: 29 :: 30 :: 31 :: 32 :: 33 :: 34 :: 35 :: 36 :: 37 :: 38 :: 39 :: 40 :: 41 :: 42 :: 43 :: 44 :: 45 :: 46 :: 47 :: 48 :: 49 :: 50 :: 51 :: 52 :: 53 :: 54 :: 55 :: 56 :: 57 :: 58 :: 59 :: 60 :: []) rfl
  have hD : va_D (kA w0) ([(x 0, .inr (4, [.ref (b 0), .ref (v 0), .ref (u 0), .ref (o 0), .ref (h 0), .ref (t 0)]))] ++ (HW b cI (clrZ z) ++ (SW v (b 0) cI (bI false) pe cn rk ++ (KWz h (kbK nk kb) cI cH (nI (nK nk)) (fun i => some ((kbK nk kb) i 0)) ((qK nk q z) 0) ((qK nk q z) 1) ((qK nk q z) 2) ((qK nk q z) 3) ((qK nk q z) 4) ((qK nk q z) 5))))) := hD.sub (0 :: 61 :: 62 :: 63 :: 64 :: 65 :: 66 :: 67 :: 68 :: 69 :: 1 :: 2 :: 3 :: 4 :: 5 :: 6 :: 7 :: 8 :: 9 :: 10 :: 11 :: 12 :: 13 :: 14 :: 15 :: 16 :: 17 :: 18 :: 19 :: 20 :: 21 :: 22 :: 23 :: 24 :: 25 :: 26 :: 27 :: 28 :: 29 :: 30 :: 31 :: 32 :: 33 :: 34 :: 35 :: 36 :: 37 :: 38 :: 39 :: 40 :: 41 :: 42 :: 43 :: 44 :: 45 :: 46 :: 47 :: 48 :: 49 :: 50 :: 51 :: 52 :: 53 :: 54 :: 55 :: 56 :: 57 :: 58 :: 59 :: 60 :: []) (by decide) rfl
  refine lv_iload_n hx hb dX4_clear_19 rfl (lv_at hl 0 rfl) ?_
  subst hw0
  exact kq_iret hx hb hrt hlocks rfl hP hD hS dX4_clear_20
set_option maxRecDepth 20000 in
theorem iX4_clearBuffer_2 : ∀ w ∈ wsX20, w ∈ wsX4_clearBuffer := by decide +kernel
set_option maxRecDepth 20000 in
theorem iX4_clearBuffer_4 : ∀ w ∈ wsX40, w ∈ wsX4_clearBuffer := by decide +kernel
set_option maxHeartbeats 4000000 in
set_option maxRecDepth 100000 in
theorem c_X4_clearBuffer (l : Launch) (D : va_G) (cI cC cH cL : ClassId) (x b v u o h t : Nat → Nat) (ts tn : ZZ) (tl tt : Nat) (tb : Bool)   : Met l yX4_clearBuffer wsX4_clearBuffer ({ frames := 0, cells := 0, slots := 0, locals := 0 }) (kw [.ref (x 0)] D ([(x 0, .inr (4, [.ref (b 0), .ref (v 0), .ref (u 0), .ref (o 0), .ref (h 0), .ref (t 0)]))] ++ (TW t cC cI ts (nI tl) tn (nI tt) (bI tb))) (kT cI cC cH cL)) (kq D ([(x 0, .inr (4, [.ref (b 0), .ref (v 0), .ref (u 0), .ref (o 0), .ref (h 0), .ref (t 0)]))] ++ (TW t cC cI ts (nI tl) tn (nI tt) (bI tb))) ([(x 0, .inr (4, [.ref (b 0), .ref (v 0), .ref (u 0), .ref (o 0), .ref (h 0), .ref (t 0)]))] ++ (TW t cC cI ts (nI 0) tn (nI tt) (bI tb))) (.returned (some (.int (nI tl))))) 0 0 (kA ([(x 0, .inr (4, [.ref (b 0), .ref (v 0), .ref (u 0), .ref (o 0), .ref (h 0), .ref (t 0)]))] ++ (TW t cC cI ts (nI tl) tn (nI tt) (bI tb)))) := by
  refine Met.ofW (cc := cX4_clearBuffer) (maxL := 2) (ret := (some .int)) (by decide) rfl ?_
  intro p e s m args below meth c s₁ B hml hv
  obtain ⟨rfl, hP, hK, hD0⟩ := hv
  have hx := B.exec
  have hb := B.bytes
  have hrt := B.returns
  have hts := atoms_spec (ws := wsX4_clearBuffer) B.pre
  have hown : s.vm.findClass RX4 = some m.cls := findClass_of_methodNamed B.named
  have hlocks := B.notSynchronized
  have hl := lv_entry ([.ref (x 0)]) (n := 2) (Nat.le_of_ble_eq_true rfl)
  rw [lg_entry_eq]
  generalize (lg_sl ([.ref (x 0)]) ++ List.replicate (2 - (lg_sl ([.ref (x 0)])).length) Slot.unset).toArray = ls at hl ⊢
  have hl : lv_has ls 2 [(0, .ref (x 0))] := hl
  have hD := kA_self hD0
  obtain ⟨w0, hw0⟩ : ∃ w : va_W, w = [(x 0, .inr (4, [.ref (b 0), .ref (v 0), .ref (u 0), .ref (o 0), .ref (h 0), .ref (t 0)]))] ++ (TW t cC cI ts (nI tl) tn (nI tt) (bI tb)) := ⟨_, rfl⟩
  have hD : va_D (kA w0) ([(x 0, .inr (4, [.ref (b 0), .ref (v 0), .ref (u 0), .ref (o 0), .ref (h 0), .ref (t 0)]))] ++ (TW t cC cI ts (nI tl) tn (nI tt) (bI tb))) := by rw [hw0]; exact hD
  have hS : va_S (kA w0) s.heap s.heap [] := va_S.rf
  rw [show kA ([(x 0, .inr (4, [.ref (b 0), .ref (v 0), .ref (u 0), .ref (o 0), .ref (h 0), .ref (t 0)]))] ++ (TW t cC cI ts (nI tl) tn (nI tt) (bI tb))) = kA w0 from by rw [hw0], show kq D ([(x 0, .inr (4, [.ref (b 0), .ref (v 0), .ref (u 0), .ref (o 0), .ref (h 0), .ref (t 0)]))] ++ (TW t cC cI ts (nI tl) tn (nI tt) (bI tb))) = kq D w0 from by rw [hw0]]
  have hP : va_P D vwCl ([(x 0, .inr (4, [.ref (b 0), .ref (v 0), .ref (u 0), .ref (o 0), .ref (h 0), .ref (t 0)]))] ++ (TW t cC cI ts (nI tl) tn (nI tt) (bI tb))) s.heap := hP
  refine lv_aload_n hx hb dX4_clearBuffer_0 rfl (lv_at hl 0 rfl) ?_
  refine va_get (D := D) (ci := 4) (v := .ref (t 0)) (C := RX4) (T := TX4) (N := 6) hx hb hts iX4_clearBuffer_4 hown hK hP 0 rfl rfl 5 (by decide) (hts (.fieldLink RX4 41 "HallSights" "text" "LHallSights$RowsText;") (List.mem_of_getElem? (i := 1) rfl)) (fun _ h9 => h9) rfl dX4_clearBuffer_1 ?_
  refine va_get (D := D) (ci := 2) (v := .int (nI tl)) (C := RX2) (T := TX2) (N := 5) hx hb hts iX4_clearBuffer_2 hown hK hP 1 rfl rfl 1 (by decide) (hts (.fieldLink RX4 169 "HallSights$RowsText" "length" "I") (List.mem_of_getElem? (i := 2) rfl)) (fun _ h9 => h9) rfl dX4_clearBuffer_4 ?_
  refine lv_istore_n (lv' := [(1, .int (nI tl)), (0, .ref (x 0))]) hx hb dX4_clearBuffer_7 rfl hl (by decide) rfl (fun ls hl => ?_)
  refine lv_aload_n hx hb dX4_clearBuffer_8 rfl (lv_at hl 1 rfl) ?_
  refine va_get (D := D) (ci := 4) (v := .ref (t 0)) (C := RX4) (T := TX4) (N := 6) hx hb hts iX4_clearBuffer_4 hown hK hP 0 rfl rfl 5 (by decide) (hts (.fieldLink RX4 41 "HallSights" "text" "LHallSights$RowsText;") (List.mem_of_getElem? (i := 1) rfl)) (fun _ h9 => h9) rfl dX4_clearBuffer_9 ?_
  refine lv_iconst (v := nI 0) hx hb dX4_clearBuffer_12 (by decide) ?_
  refine va_put (D := D) (ci := 2) (v := .int (nI 0)) (ty := .int) (C := RX2) (T := TX2) (N := 5) hx hb hts iX4_clearBuffer_2 tyX2 tyX2_ok nmX2 hown hK hP hD hS 1 rfl rfl 1 (by decide) (hts (.fieldLink RX4 169 "HallSights$RowsText" "length" "I") (List.mem_of_getElem? (i := 2) rfl)) (fun _ h9 => h9) rfl (by decide +kernel) rfl rfl (Nat.le_of_ble_eq_true rfl) dX4_clearBuffer_13 (fun H locs hP hD hS => ?_)
  have hP : va_P D vwCl ([(x 0, .inr (4, [.ref (b 0), .ref (v 0), .ref (u 0), .ref (o 0), .ref (h 0), .ref (t 0)]))] ++ (TW t cC cI ts (nI 0) tn (nI tt) (bI tb))) H := hP
  have hD : va_D (kA w0) ([(x 0, .inr (4, [.ref (b 0), .ref (v 0), .ref (u 0), .ref (o 0), .ref (h 0), .ref (t 0)]))] ++ (TW t cC cI ts (nI 0) tn (nI tt) (bI tb))) := hD
  refine lv_iload_n hx hb dX4_clearBuffer_16 rfl (lv_at hl 0 rfl) ?_
  subst hw0
  exact kq_iret hx hb hrt hlocks rfl hP hD hS dX4_clearBuffer_17
set_option maxRecDepth 20000 in
theorem iX4_worstColumn_4 : ∀ w ∈ wsX40, w ∈ wsX4_worstColumn := by decide +kernel
set_option maxHeartbeats 4000000 in
set_option maxRecDepth 100000 in
theorem c_X4_worstColumn (l : Launch) (D : va_G) (cI cC cH cL : ClassId) (x b v u o h t : Nat → Nat) (z : ZZ) (lk : Bool) (pe cn rk : ZZ)  (hw : WF z) (hws : WS z) (hL0 : lk = true → LKR z pe cn rk) : Met l yX4_worstColumn wsX4_worstColumn ({ frames := 4, cells := 0, slots := 0, locals := 115 }) (kw [.ref (x 0)] D ([(x 0, .inr (4, [.ref (b 0), .ref (v 0), .ref (u 0), .ref (o 0), .ref (h 0), .ref (t 0)]))] ++ (HW b cI z ++ (SW v (b 0) cI (bI lk) pe cn rk))) (kT cI cC cH cL)) (kq D ([(x 0, .inr (4, [.ref (b 0), .ref (v 0), .ref (u 0), .ref (o 0), .ref (h 0), .ref (t 0)]))] ++ (HW b cI z ++ (SW v (b 0) cI (bI lk) pe cn rk))) ([(x 0, .inr (4, [.ref (b 0), .ref (v 0), .ref (u 0), .ref (o 0), .ref (h 0), .ref (t 0)]))] ++ (HW b cI z ++ (SW v (b 0) cI (bI true) (lkP lk (people z) z pe) (lkP lk ((fun r s => colsW z r s (-1))) z cn) (lkP lk (rkN z) z rk)))) (.returned (some (.int (worstI z))))) 0 0 (kA ([(x 0, .inr (4, [.ref (b 0), .ref (v 0), .ref (u 0), .ref (o 0), .ref (h 0), .ref (t 0)]))] ++ (HW b cI z ++ (SW v (b 0) cI (bI lk) pe cn rk)))) := by
  refine Met.ofW (cc := cX4_worstColumn) (maxL := 1) (ret := (some .int)) (by decide) rfl ?_
  intro p e s m args below meth c s₁ B hml hv
  obtain ⟨rfl, hP, hK, hD0⟩ := hv
  have hx := B.exec
  have hb := B.bytes
  have hrt := B.returns
  have hts := atoms_spec (ws := wsX4_worstColumn) B.pre
  have hown : s.vm.findClass RX4 = some m.cls := findClass_of_methodNamed B.named
  have hlocks := B.notSynchronized
  have hl := lv_entry ([.ref (x 0)]) (n := 1) (Nat.le_of_ble_eq_true rfl)
  rw [lg_entry_eq]
  generalize (lg_sl ([.ref (x 0)]) ++ List.replicate (1 - (lg_sl ([.ref (x 0)])).length) Slot.unset).toArray = ls at hl ⊢
  have hl : lv_has ls 1 [(0, .ref (x 0))] := hl
  have hD := kA_self hD0
  obtain ⟨w0, hw0⟩ : ∃ w : va_W, w = [(x 0, .inr (4, [.ref (b 0), .ref (v 0), .ref (u 0), .ref (o 0), .ref (h 0), .ref (t 0)]))] ++ (HW b cI z ++ (SW v (b 0) cI (bI lk) pe cn rk)) := ⟨_, rfl⟩
  have hD : va_D (kA w0) ([(x 0, .inr (4, [.ref (b 0), .ref (v 0), .ref (u 0), .ref (o 0), .ref (h 0), .ref (t 0)]))] ++ (HW b cI z ++ (SW v (b 0) cI (bI lk) pe cn rk))) := by rw [hw0]; exact hD
  have hS : va_S (kA w0) s.heap s.heap [] := va_S.rf
  rw [show kA ([(x 0, .inr (4, [.ref (b 0), .ref (v 0), .ref (u 0), .ref (o 0), .ref (h 0), .ref (t 0)]))] ++ (HW b cI z ++ (SW v (b 0) cI (bI lk) pe cn rk))) = kA w0 from by rw [hw0], show kq D ([(x 0, .inr (4, [.ref (b 0), .ref (v 0), .ref (u 0), .ref (o 0), .ref (h 0), .ref (t 0)]))] ++ (HW b cI z ++ (SW v (b 0) cI (bI lk) pe cn rk))) = kq D w0 from by rw [hw0]]
  have hP : va_P D vwCl ([(x 0, .inr (4, [.ref (b 0), .ref (v 0), .ref (u 0), .ref (o 0), .ref (h 0), .ref (t 0)]))] ++ (HW b cI z ++ (SW v (b 0) cI (bI lk) pe cn rk))) s.heap := hP
  have hR10 := wf_R10 hw
  have hC4 := wf_C4 hw
  have hLU := lkr_P hw (lk := lk) (pe := pe) (cn := cn) (rk := rk) hL0
  refine lv_aload_n hx hb dX4_worstColumn_0 rfl (lv_at hl 0 rfl) ?_
  refine va_get (D := D) (ci := 4) (v := .ref (v 0)) (C := RX4) (T := TX4) (N := 6) hx hb hts iX4_worstColumn_4 hown hK hP 0 rfl rfl 1 (by decide) (hts (.fieldLink RX4 21 "HallSights" "survey" "LHallSights$Survey;") (List.mem_of_getElem? (i := 1) rfl)) (fun _ h9 => h9) rfl dX4_worstColumn_1 ?_
  refine kw_V (As := []) (rest := []) (C := RX3) (own := RX4) ⟨hx, hb, hml, hown, hts⟩ (c_X3_look l D cI cC cH cL v b z lk pe cn rk  (by first | assumption | omega) (by first | assumption | omega)) (cwV 0 hts gX4_worstColumn_X3_look rfl rfl rfl k_X3_look ⟨Nat.le_of_ble_eq_true rfl, Nat.le_of_ble_eq_true rfl⟩) hP hD hK hS [1, 2, 3, 4, 5, 6, 7, 8, 9, 10, 11, 12, 13] [0] rfl rfl (wr := ([(x 0, .inr (4, [.ref (b 0), .ref (v 0), .ref (u 0), .ref (o 0), .ref (h 0), .ref (t 0)]))])) rfl (by decide) (by decide) (by decide) (va_recv (q := (RX3, TX3, 5)) hK hP (ci := 3) (q0 := 10) rfl rfl) rfl hl.1 rfl (Nat.le_of_ble_eq_true rfl) dX4_worstColumn_4 ⟨Nat.le_of_ble_eq_true rfl, Nat.le_of_ble_eq_true rfl⟩ (fun H locs hP hD hS => ?_)
  have hP : va_P D vwCl ([(x 0, .inr (4, [.ref (b 0), .ref (v 0), .ref (u 0), .ref (o 0), .ref (h 0), .ref (t 0)]))] ++ (HW b cI z ++ (SW v (b 0) cI (bI true) (lkP lk (people z) z pe) (lkP lk ((fun r s => colsW z r s (-1))) z cn) (lkP lk (rkN z) z rk)))) H := hP.sub [0, 1, 2, 3, 4, 5, 6, 7, 8, 9, 10, 11, 12, 13] rfl
  have hD : va_D (kA w0) ([(x 0, .inr (4, [.ref (b 0), .ref (v 0), .ref (u 0), .ref (o 0), .ref (h 0), .ref (t 0)]))] ++ (HW b cI z ++ (SW v (b 0) cI (bI true) (lkP lk (people z) z pe) (lkP lk ((fun r s => colsW z r s (-1))) z cn) (lkP lk (rkN z) z rk)))) := hD.sub [0, 1, 2, 3, 4, 5, 6, 7, 8, 9, 10, 11, 12, 13] (by decide) rfl
  refine lv_aload_n hx hb dX4_worstColumn_7 rfl (lv_at hl 0 rfl) ?_
  refine va_get (D := D) (ci := 4) (v := .ref (v 0)) (C := RX4) (T := TX4) (N := 6) hx hb hts iX4_worstColumn_4 hown hK hP 0 rfl rfl 1 (by decide) (hts (.fieldLink RX4 21 "HallSights" "survey" "LHallSights$Survey;") (List.mem_of_getElem? (i := 1) rfl)) (fun _ h9 => h9) rfl dX4_worstColumn_8 ?_
  refine kr_V (As := []) (rest := []) (C := RX3) (own := RX4) ⟨hx, hb, hml, hown, hts⟩ (c_X3_columnToRemove l D cI cC cH cL v b z true (lkP lk (people z) z pe) (lkP lk ((fun r s => colsW z r s (-1))) z cn) (lkP lk (rkN z) z rk)  (by first | assumption | omega) (by exact hLU)) (cwV 0 hts gX4_worstColumn_X3_columnToRemove rfl rfl rfl k_X3_columnToRemove ⟨Nat.le_of_ble_eq_true rfl, Nat.le_of_ble_eq_true rfl⟩) (hP.sub (ws' := (HW b cI z ++ SW v (b 0) cI (bI true) (lkP lk (people z) z pe) (lkP lk ((fun r s => colsW z r s (-1))) z cn) (lkP lk (rkN z) z rk))) [1, 2, 3, 4, 5, 6, 7, 8, 9, 10, 11, 12, 13] rfl) hK (va_recv (q := (RX3, TX3, 5)) hK hP (ci := 3) (q0 := 10) rfl rfl) rfl hl.1 rfl (Nat.le_of_ble_eq_true rfl) dX4_worstColumn_11 ⟨Nat.le_of_ble_eq_true rfl, Nat.le_of_ble_eq_true rfl⟩ ?_
  subst hw0
  exact kq_iret hx hb hrt hlocks rfl hP hD hS dX4_worstColumn_14
set_option maxRecDepth 20000 in
theorem iX4_seeingShare_4 : ∀ w ∈ wsX40, w ∈ wsX4_seeingShare := by decide +kernel
set_option maxHeartbeats 4000000 in
set_option maxRecDepth 100000 in
theorem c_X4_seeingShare (l : Launch) (D : va_G) (cI cC cH cL : ClassId) (x b v u o h t : Nat → Nat) (z : ZZ) (lk : Bool) (pe cn rk : ZZ)  (hw : WF z) (hws : WS z) (hv : VT z) (hL0 : lk = true → LKR z pe cn rk) : Met l yX4_seeingShare wsX4_seeingShare ({ frames := 5, cells := 0, slots := 0, locals := 115 }) (kw [.ref (x 0)] D ([(x 0, .inr (4, [.ref (b 0), .ref (v 0), .ref (u 0), .ref (o 0), .ref (h 0), .ref (t 0)]))] ++ (HW b cI z ++ (SW v (b 0) cI (bI lk) pe cn rk))) (kT cI cC cH cL)) (kq D ([(x 0, .inr (4, [.ref (b 0), .ref (v 0), .ref (u 0), .ref (o 0), .ref (h 0), .ref (t 0)]))] ++ (HW b cI z ++ (SW v (b 0) cI (bI lk) pe cn rk))) ([(x 0, .inr (4, [.ref (b 0), .ref (v 0), .ref (u 0), .ref (o 0), .ref (h 0), .ref (t 0)]))] ++ (HW b cI z ++ (SW v (b 0) cI (bI true) (lkP lk (people z) z pe) (lkP lk ((fun r s => colsW z r s (-1))) z cn) (lkP lk (rkN z) z rk)))) (.returned (some (.double (shareD z))))) 0 0 (kA ([(x 0, .inr (4, [.ref (b 0), .ref (v 0), .ref (u 0), .ref (o 0), .ref (h 0), .ref (t 0)]))] ++ (HW b cI z ++ (SW v (b 0) cI (bI lk) pe cn rk)))) := by
  refine Met.ofW (cc := cX4_seeingShare) (maxL := 1) (ret := (some .double)) (by decide) rfl ?_
  intro p e s m args below meth c s₁ B hml hv
  obtain ⟨rfl, hP, hK, hD0⟩ := hv
  have hx := B.exec
  have hb := B.bytes
  have hrt := B.returns
  have hts := atoms_spec (ws := wsX4_seeingShare) B.pre
  have hown : s.vm.findClass RX4 = some m.cls := findClass_of_methodNamed B.named
  have hlocks := B.notSynchronized
  have hl := lv_entry ([.ref (x 0)]) (n := 1) (Nat.le_of_ble_eq_true rfl)
  rw [lg_entry_eq]
  generalize (lg_sl ([.ref (x 0)]) ++ List.replicate (1 - (lg_sl ([.ref (x 0)])).length) Slot.unset).toArray = ls at hl ⊢
  have hl : lv_has ls 1 [(0, .ref (x 0))] := hl
  have hD := kA_self hD0
  obtain ⟨w0, hw0⟩ : ∃ w : va_W, w = [(x 0, .inr (4, [.ref (b 0), .ref (v 0), .ref (u 0), .ref (o 0), .ref (h 0), .ref (t 0)]))] ++ (HW b cI z ++ (SW v (b 0) cI (bI lk) pe cn rk)) := ⟨_, rfl⟩
  have hD : va_D (kA w0) ([(x 0, .inr (4, [.ref (b 0), .ref (v 0), .ref (u 0), .ref (o 0), .ref (h 0), .ref (t 0)]))] ++ (HW b cI z ++ (SW v (b 0) cI (bI lk) pe cn rk))) := by rw [hw0]; exact hD
  have hS : va_S (kA w0) s.heap s.heap [] := va_S.rf
  rw [show kA ([(x 0, .inr (4, [.ref (b 0), .ref (v 0), .ref (u 0), .ref (o 0), .ref (h 0), .ref (t 0)]))] ++ (HW b cI z ++ (SW v (b 0) cI (bI lk) pe cn rk))) = kA w0 from by rw [hw0], show kq D ([(x 0, .inr (4, [.ref (b 0), .ref (v 0), .ref (u 0), .ref (o 0), .ref (h 0), .ref (t 0)]))] ++ (HW b cI z ++ (SW v (b 0) cI (bI lk) pe cn rk))) = kq D w0 from by rw [hw0]]
  have hP : va_P D vwCl ([(x 0, .inr (4, [.ref (b 0), .ref (v 0), .ref (u 0), .ref (o 0), .ref (h 0), .ref (t 0)]))] ++ (HW b cI z ++ (SW v (b 0) cI (bI lk) pe cn rk))) s.heap := hP
  have hR10 := wf_R10 hw
  have hC4 := wf_C4 hw
  have hLU := lkr_P hw (lk := lk) (pe := pe) (cn := cn) (rk := rk) hL0
  refine lv_aload_n hx hb dX4_seeingShare_0 rfl (lv_at hl 0 rfl) ?_
  refine va_get (D := D) (ci := 4) (v := .ref (v 0)) (C := RX4) (T := TX4) (N := 6) hx hb hts iX4_seeingShare_4 hown hK hP 0 rfl rfl 1 (by decide) (hts (.fieldLink RX4 21 "HallSights" "survey" "LHallSights$Survey;") (List.mem_of_getElem? (i := 1) rfl)) (fun _ h9 => h9) rfl dX4_seeingShare_1 ?_
  refine kw_V (As := []) (rest := []) (C := RX3) (own := RX4) ⟨hx, hb, hml, hown, hts⟩ (c_X3_look l D cI cC cH cL v b z lk pe cn rk  (by first | assumption | omega) (by first | assumption | omega)) (cwV 0 hts gX4_seeingShare_X3_look rfl rfl rfl k_X3_look ⟨Nat.le_of_ble_eq_true rfl, Nat.le_of_ble_eq_true rfl⟩) hP hD hK hS [1, 2, 3, 4, 5, 6, 7, 8, 9, 10, 11, 12, 13] [0] rfl rfl (wr := ([(x 0, .inr (4, [.ref (b 0), .ref (v 0), .ref (u 0), .ref (o 0), .ref (h 0), .ref (t 0)]))])) rfl (by decide) (by decide) (by decide) (va_recv (q := (RX3, TX3, 5)) hK hP (ci := 3) (q0 := 10) rfl rfl) rfl hl.1 rfl (Nat.le_of_ble_eq_true rfl) dX4_seeingShare_4 ⟨Nat.le_of_ble_eq_true rfl, Nat.le_of_ble_eq_true rfl⟩ (fun H locs hP hD hS => ?_)
  have hP : va_P D vwCl ([(x 0, .inr (4, [.ref (b 0), .ref (v 0), .ref (u 0), .ref (o 0), .ref (h 0), .ref (t 0)]))] ++ (HW b cI z ++ (SW v (b 0) cI (bI true) (lkP lk (people z) z pe) (lkP lk ((fun r s => colsW z r s (-1))) z cn) (lkP lk (rkN z) z rk)))) H := hP.sub [0, 1, 2, 3, 4, 5, 6, 7, 8, 9, 10, 11, 12, 13] rfl
  have hD : va_D (kA w0) ([(x 0, .inr (4, [.ref (b 0), .ref (v 0), .ref (u 0), .ref (o 0), .ref (h 0), .ref (t 0)]))] ++ (HW b cI z ++ (SW v (b 0) cI (bI true) (lkP lk (people z) z pe) (lkP lk ((fun r s => colsW z r s (-1))) z cn) (lkP lk (rkN z) z rk)))) := hD.sub [0, 1, 2, 3, 4, 5, 6, 7, 8, 9, 10, 11, 12, 13] (by decide) rfl
  refine lv_aload_n hx hb dX4_seeingShare_7 rfl (lv_at hl 0 rfl) ?_
  refine kr_V (As := []) (rest := []) (C := RX4) (own := RX4) ⟨hx, hb, hml, hown, hts⟩ (c_X4_shareOfSeeing l D cI cC cH cL x b v u o h t z true (lkP lk (people z) z pe) (lkP lk ((fun r s => colsW z r s (-1))) z cn) (lkP lk (rkN z) z rk)  (by first | assumption | omega) (by first | assumption | omega) (by exact hLU)) (cwV 0 hts gX4_seeingShare_X4_shareOfSeeing rfl rfl rfl k_X4_shareOfSeeing ⟨Nat.le_of_ble_eq_true rfl, Nat.le_of_ble_eq_true rfl⟩) hP hK (va_recv (q := (RX4, TX4, 6)) hK hP (ci := 4) (q0 := 0) rfl rfl) rfl hl.1 rfl (Nat.le_of_ble_eq_true rfl) dX4_seeingShare_8 ⟨Nat.le_of_ble_eq_true rfl, Nat.le_of_ble_eq_true rfl⟩ ?_
  subst hw0
  exact kq_dret hx hb hrt hlocks rfl hP hD hS dX4_seeingShare_11
