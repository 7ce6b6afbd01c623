theorem k_X4_addAll : yX4_addAll.cls = RX4 ∧ yX4_addAll.cls ≠ "java/lang/invoke/MethodHandle" ∧ yX4_addAll.cls ≠ "java/lang/invoke/VarHandle" ∧ (parseMethodDescriptor yX4_addAll.desc).map (fun d => d.parameters.length) = some 0 := by decide +kernel
theorem k_X4_append : yX4_append.cls = RX4 ∧ yX4_append.cls ≠ "java/lang/invoke/MethodHandle" ∧ yX4_append.cls ≠ "java/lang/invoke/VarHandle" ∧ (parseMethodDescriptor yX4_append.desc).map (fun d => d.parameters.length) = some 1 := by decide +kernel
theorem k_X4_best : yX4_best.cls = RX4 ∧ yX4_best.cls ≠ "java/lang/invoke/MethodHandle" ∧ yX4_best.cls ≠ "java/lang/invoke/VarHandle" ∧ (parseMethodDescriptor yX4_best.desc).map (fun d => d.parameters.length) = some 1 := by decide +kernel
theorem k_X4_column : yX4_column.cls = RX4 ∧ yX4_column.cls ≠ "java/lang/invoke/MethodHandle" ∧ yX4_column.cls ≠ "java/lang/invoke/VarHandle" ∧ (parseMethodDescriptor yX4_column.desc).map (fun d => d.parameters.length) = some 2 := by decide +kernel
theorem k_X4_count : yX4_count.cls = RX4 ∧ yX4_count.cls ≠ "java/lang/invoke/MethodHandle" ∧ yX4_count.cls ≠ "java/lang/invoke/VarHandle" ∧ (parseMethodDescriptor yX4_count.desc).map (fun d => d.parameters.length) = some 1 := by decide +kernel
theorem k_X4_ifLifted : yX4_ifLifted.cls = RX4 ∧ yX4_ifLifted.cls ≠ "java/lang/invoke/MethodHandle" ∧ yX4_ifLifted.cls ≠ "java/lang/invoke/VarHandle" ∧ (parseMethodDescriptor yX4_ifLifted.desc).map (fun d => d.parameters.length) = some 2 := by decide +kernel
theorem k_X4_ifTaken : yX4_ifTaken.cls = RX4 ∧ yX4_ifTaken.cls ≠ "java/lang/invoke/MethodHandle" ∧ yX4_ifTaken.cls ≠ "java/lang/invoke/VarHandle" ∧ (parseMethodDescriptor yX4_ifTaken.desc).map (fun d => d.parameters.length) = some 2 := by decide +kernel
theorem k_X4_leastHeight : yX4_leastHeight.cls = RX4 ∧ yX4_leastHeight.cls ≠ "java/lang/invoke/MethodHandle" ∧ yX4_leastHeight.cls ≠ "java/lang/invoke/VarHandle" ∧ (parseMethodDescriptor yX4_leastHeight.desc).map (fun d => d.parameters.length) = some 1 := by decide +kernel
theorem k_X4_row : yX4_row.cls = RX4 ∧ yX4_row.cls ≠ "java/lang/invoke/MethodHandle" ∧ yX4_row.cls ≠ "java/lang/invoke/VarHandle" ∧ (parseMethodDescriptor yX4_row.desc).map (fun d => d.parameters.length) = some 2 := by decide +kernel
theorem k_X4_seat : yX4_seat.cls = RX4 ∧ yX4_seat.cls ≠ "java/lang/invoke/MethodHandle" ∧ yX4_seat.cls ≠ "java/lang/invoke/VarHandle" ∧ (parseMethodDescriptor yX4_seat.desc).map (fun d => d.parameters.length) = some 3 := by decide +kernel
theorem k_X4_seatParty : yX4_seatParty.cls = RX4 ∧ yX4_seatParty.cls ≠ "java/lang/invoke/MethodHandle" ∧ yX4_seatParty.cls ≠ "java/lang/invoke/VarHandle" ∧ (parseMethodDescriptor yX4_seatParty.desc).map (fun d => d.parameters.length) = some 1 := by decide +kernel
theorem k_X4_setting : yX4_setting.cls = RX4 ∧ yX4_setting.cls ≠ "java/lang/invoke/MethodHandle" ∧ yX4_setting.cls ≠ "java/lang/invoke/VarHandle" ∧ (parseMethodDescriptor yX4_setting.desc).map (fun d => d.parameters.length) = some 1 := by decide +kernel
theorem k_X4_undo : yX4_undo.cls = RX4 ∧ yX4_undo.cls ≠ "java/lang/invoke/MethodHandle" ∧ yX4_undo.cls ≠ "java/lang/invoke/VarHandle" ∧ (parseMethodDescriptor yX4_undo.desc).map (fun d => d.parameters.length) = some 0 := by decide +kernel
theorem k_X4_whoBlocks : yX4_whoBlocks.cls = RX4 ∧ yX4_whoBlocks.cls ≠ "java/lang/invoke/MethodHandle" ∧ yX4_whoBlocks.cls ≠ "java/lang/invoke/VarHandle" ∧ (parseMethodDescriptor yX4_whoBlocks.desc).map (fun d => d.parameters.length) = some 2 := by decide +kernel
set_option maxHeartbeats 4000000 in
set_option maxRecDepth 100000 in
theorem c_L_seatParty (l : Launch) (hst : l.stackTraces = false) (D : va_G) (cI cC cH cL : ClassId) (y : Nat → Nat) (x b v u o h t : Nat → Nat) (z : ZZ) (lk : Bool) (pe cn rk : ZZ) (kb : Nat → Nat → Nat) (nk : Nat) (q : Nat → ZZ) (go : Nat → Int64) (mm : Int32) (r : Nat) (hw : WF z) (hws : WS z) (hn : nk ≤ 6) (hL0 : lk = true → LKR z pe cn rk) : Met l yL_seatParty wsL_seatParty ({ frames := 7, cells := 1, slots := 6, locals := 144 }) (kwx y [.ref (x 0), .int mm, .ref r] D ([(x 0, .inr (4, [.ref (v 0), .ref (b 0), .ref (o 0), .ref (h 0), .ref (t 0)]))] ++ (HW b cI z ++ (SW v (b 0) cI (bI lk) pe cn rk ++ (KWz h kb cI cH (nI nk) (fun i => some (kb i 0)) (q 0) (q 1) (q 2) (q 3) (q 4) (q 5) ++ ([(r, .inl (cL, 1, .inr (.inl go)))]))))) (kT cI cC cH cL)) (kqw D ([(x 0, .inr (4, [.ref (v 0), .ref (b 0), .ref (o 0), .ref (h 0), .ref (t 0)]))] ++ (HW b cI z ++ (SW v (b 0) cI (bI lk) pe cn rk ++ (KWz h kb cI cH (nI nk) (fun i => some (kb i 0)) (q 0) (q 1) (q 2) (q 3) (q 4) (q 5) ++ ([(r, .inl (cL, 1, .inr (.inl go)))]))))) (tParty z mm) ([(x 0, .inr (4, [.ref (v 0), .ref (b 0), .ref (o 0), .ref (h 0), .ref (t 0)]))] ++ (HW b cI (partyZ z (cl (placeForI z (cl mm)) / 100) (cl (placeForI z (cl mm)) % 100) (cl mm)) ++ (SW v (b 0) cI (bI false) (lkP lk (people z) z pe) (lkP lk ((fun r s => colsW z r s (-1))) z cn) (lkP lk (rkN z) z rk) ++ (KWz h (kbK nk kb) cI cH (nI (nK nk)) (fun i => some ((kbK nk kb) i 0)) ((qK nk q z) 0) ((qK nk q z) 1) ((qK nk q z) 2) ((qK nk q z) 3) ((qK nk q z) 4) ((qK nk q z) 5) ++ ([(r, .inl (cL, 1, .inr (.inl (vp_updL go 0 (placeForI z (cl mm)).toInt64))))]))))) ([(x 0, .inr (4, [.ref (v 0), .ref (b 0), .ref (o 0), .ref (h 0), .ref (t 0)]))] ++ (HW b cI z ++ (SW v (b 0) cI (bI (if (wthn mm (nI 1) (nI 12) = true) then true else lk)) (if (wthn mm (nI 1) (nI 12) = true) then lkP lk (people z) z pe else pe) (if (wthn mm (nI 1) (nI 12) = true) then lkP lk ((fun r s => colsW z r s (-1))) z cn else cn) (if (wthn mm (nI 1) (nI 12) = true) then lkP lk (rkN z) z rk else rk) ++ (KWz h kb cI cH (nI nk) (fun i => some (kb i 0)) (q 0) (q 1) (q 2) (q 3) (q 4) (q 5) ++ ([(r, .inl (cL, 1, .inr (.inl go)))])))))) 1 6 (kA ([(x 0, .inr (4, [.ref (v 0), .ref (b 0), .ref (o 0), .ref (h 0), .ref (t 0)]))] ++ (HW b cI z ++ (SW v (b 0) cI (bI lk) pe cn rk ++ (KWz h kb cI cH (nI nk) (fun i => some (kb i 0)) (q 0) (q 1) (q 2) (q 3) (q 4) (q 5) ++ ([(r, .inl (cL, 1, .inr (.inl go)))])))))) := by
  refine kx_ofWH (cc := cL_seatParty) (maxL := 4) (ret := (some .int)) (by decide) rfl ?_
  intro p e s m args below meth c s₁ B hml htb hv
  obtain ⟨⟨rfl, hP, hK, hD0⟩, hX9, hF⟩ := hv
  have hx := B.exec
  have hb := B.bytes
  have hrt := B.returns
  have hts := atoms_spec (ws := wsL_seatParty) B.pre
  have hown : s.vm.findClass RL = some m.cls := findClass_of_methodNamed B.named
  have hlocks := B.notSynchronized
  have hl := lv_entry ([.ref (x 0), .int mm, .ref r]) (n := 4) (Nat.le_of_ble_eq_true rfl)
  rw [lg_entry_eq]
  generalize (lg_sl ([.ref (x 0), .int mm, .ref r]) ++ List.replicate (4 - (lg_sl ([.ref (x 0), .int mm, .ref r])).length) Slot.unset).toArray = ls at hl ⊢
  have hl : lv_has ls 4 [(0, .ref (x 0)), (1, .int mm), (2, .ref r)] := hl
  have hD := kA_self hD0
  obtain ⟨w0, hw0⟩ : ∃ w : va_W, w = [(x 0, .inr (4, [.ref (v 0), .ref (b 0), .ref (o 0), .ref (h 0), .ref (t 0)]))] ++ (HW b cI z ++ (SW v (b 0) cI (bI lk) pe cn rk ++ (KWz h kb cI cH (nI nk) (fun i => some (kb i 0)) (q 0) (q 1) (q 2) (q 3) (q 4) (q 5) ++ ([(r, .inl (cL, 1, .inr (.inl go)))])))) := ⟨_, rfl⟩
  have hD : va_D (kA w0) ([(x 0, .inr (4, [.ref (v 0), .ref (b 0), .ref (o 0), .ref (h 0), .ref (t 0)]))] ++ (HW b cI z ++ (SW v (b 0) cI (bI lk) pe cn rk ++ (KWz h kb cI cH (nI nk) (fun i => some (kb i 0)) (q 0) (q 1) (q 2) (q 3) (q 4) (q 5) ++ ([(r, .inl (cL, 1, .inr (.inl go)))]))))) := by rw [hw0]; exact hD
  have hS : va_S (kA w0) s.heap s.heap [] := va_S.rf
  have hXx : hX y (kA w0) s s.heap := by rw [hw0]; exact hX9
  rw [show kA ([(x 0, .inr (4, [.ref (v 0), .ref (b 0), .ref (o 0), .ref (h 0), .ref (t 0)]))] ++ (HW b cI z ++ (SW v (b 0) cI (bI lk) pe cn rk ++ (KWz h kb cI cH (nI nk) (fun i => some (kb i 0)) (q 0) (q 1) (q 2) (q 3) (q 4) (q 5) ++ ([(r, .inl (cL, 1, .inr (.inl go)))]))))) = kA w0 from by rw [hw0], show kqw D ([(x 0, .inr (4, [.ref (v 0), .ref (b 0), .ref (o 0), .ref (h 0), .ref (t 0)]))] ++ (HW b cI z ++ (SW v (b 0) cI (bI lk) pe cn rk ++ (KWz h kb cI cH (nI nk) (fun i => some (kb i 0)) (q 0) (q 1) (q 2) (q 3) (q 4) (q 5) ++ ([(r, .inl (cL, 1, .inr (.inl go)))]))))) = kqw D w0 from by rw [hw0]]
  have hP : va_P D vwCl ([(x 0, .inr (4, [.ref (v 0), .ref (b 0), .ref (o 0), .ref (h 0), .ref (t 0)]))] ++ (HW b cI z ++ (SW v (b 0) cI (bI lk) pe cn rk ++ (KWz h kb cI cH (nI nk) (fun i => some (kb i 0)) (q 0) (q 1) (q 2) (q 3) (q 4) (q 5) ++ ([(r, .inl (cL, 1, .inr (.inl go)))]))))) s.heap := hP
  refine lv_aload_n hx hb dL_seatParty_0 rfl (lv_at hl 2 rfl) ?_
  refine lv_iconst (v := nI 0) hx hb dL_seatParty_1 (by decide) ?_
  refine lv_aload_n hx hb dL_seatParty_2 rfl (lv_at hl 0 rfl) ?_
  refine lv_iload_n hx hb dL_seatParty_3 rfl (lv_at hl 1 rfl) ?_
  refine kxV (As := [.int mm]) (rest := [.int (nI 0), .ref r]) (C := RX4) (own := RL) ⟨hx, hb, hml, hown, hts⟩ (c_X4_seatParty l hst D cI cC cH cL y x b v u o h t z lk pe cn rk kb nk q mm (by first | assumption | omega) (by first | assumption | omega) (by first | assumption | omega) (by first | assumption | omega)) (cwV 1 hts gL_seatParty_X4_seatParty rfl rfl rfl k_X4_seatParty ⟨Nat.le_of_ble_eq_true rfl, Nat.le_of_ble_eq_true rfl⟩) hP hD hK hS hXx hF (0 :: 1 :: 2 :: 3 :: 4 :: 5 :: 6 :: 7 :: 8 :: 9 :: 10 :: 11 :: 12 :: 13 :: 14 :: 15 :: 16 :: 17 :: 18 :: 19 :: 20 :: 21 :: 22 :: 23 :: 24 :: 25 :: 26 :: 27 :: 28 :: 29 :: 30 :: 31 :: 32 :: 33 :: 34 :: 35 :: 36 :: 37 :: 38 :: 39 :: 40 :: 41 :: 42 :: 43 :: 44 :: 45 :: 46 :: 47 :: 48 :: 49 :: 50 :: 51 :: 52 :: 53 :: 54 :: 55 :: 56 :: 57 :: 58 :: 59 :: 60 :: 61 :: 62 :: 63 :: 64 :: 65 :: 66 :: 67 :: 68 :: 69 :: []) [70] rfl rfl (wr := ([(r, .inl (cL, 1, .inr (.inl go)))])) rfl (by decide) (by decide) (by decide) (va_recv (q := (RX4, TX4, 5)) hK hP (ci := 4) (q0 := 0) rfl rfl) rfl hl.1 rfl (Nat.le_of_ble_eq_true rfl) dL_seatParty_4 ⟨Nat.le_of_ble_eq_true rfl, Nat.le_of_ble_eq_true rfl⟩ (fun E9 ce9 q9 H locs hE hP hD hS hq1 hq2 hq3 => ?_) (fun H locs hT9 hP hD hS => ?_)
  · have hP : va_P D vwCl ([(x 0, .inr (4, [.ref (v 0), .ref (b 0), .ref (o 0), .ref (h 0), .ref (t 0)]))] ++ (HW b cI z ++ (SW v (b 0) cI (bI (if (wthn mm (nI 1) (nI 12) = true) then true else lk)) (if (wthn mm (nI 1) (nI 12) = true) then lkP lk (people z) z pe else pe) (if (wthn mm (nI 1) (nI 12) = true) then lkP lk ((fun r s => colsW z r s (-1))) z cn else cn) (if (wthn mm (nI 1) (nI 12) = true) then lkP lk (rkN z) z rk else rk) ++ (KWz h kb cI cH (nI nk) (fun i => some (kb i 0)) (q 0) (q 1) (q 2) (q 3) (q 4) (q 5) ++ ([(r, .inl (cL, 1, .inr (.inl go)))]))))) H := hP.sub (1 :: 2 :: 3 :: 4 :: 5 :: 6 :: 7 :: 8 :: 9 :: 10 :: 11 :: 12 :: 13 :: 14 :: 15 :: 16 :: 17 :: 18 :: 19 :: 20 :: 21 :: 22 :: 23 :: 24 :: 25 :: 26 :: 27 :: 28 :: 29 :: 30 :: 31 :: 32 :: 33 :: 34 :: 35 :: 36 :: 37 :: 38 :: 39 :: 40 :: 41 :: 42 :: 43 :: 44 :: 45 :: 46 :: 47 :: 48 :: 49 :: 50 :: 51 :: 52 :: 53 :: 54 :: 55 :: 56 :: 57 :: 58 :: 59 :: 60 :: 61 :: 62 :: 63 :: 64 :: 65 :: 66 :: 67 :: 68 :: 69 :: 70 :: 0 :: []) rfl
    have hD : va_D (kA w0) ([(x 0, .inr (4, [.ref (v 0), .ref (b 0), .ref (o 0), .ref (h 0), .ref (t 0)]))] ++ (HW b cI z ++ (SW v (b 0) cI (bI (if (wthn mm (nI 1) (nI 12) = true) then true else lk)) (if (wthn mm (nI 1) (nI 12) = true) then lkP lk (people z) z pe else pe) (if (wthn mm (nI 1) (nI 12) = true) then lkP lk ((fun r s => colsW z r s (-1))) z cn else cn) (if (wthn mm (nI 1) (nI 12) = true) then lkP lk (rkN z) z rk else rk) ++ (KWz h kb cI cH (nI nk) (fun i => some (kb i 0)) (q 0) (q 1) (q 2) (q 3) (q 4) (q 5) ++ ([(r, .inl (cL, 1, .inr (.inl go)))]))))) := hD.sub (1 :: 2 :: 3 :: 4 :: 5 :: 6 :: 7 :: 8 :: 9 :: 10 :: 11 :: 12 :: 13 :: 14 :: 15 :: 16 :: 17 :: 18 :: 19 :: 20 :: 21 :: 22 :: 23 :: 24 :: 25 :: 26 :: 27 :: 28 :: 29 :: 30 :: 31 :: 32 :: 33 :: 34 :: 35 :: 36 :: 37 :: 38 :: 39 :: 40 :: 41 :: 42 :: 43 :: 44 :: 45 :: 46 :: 47 :: 48 :: 49 :: 50 :: 51 :: 52 :: 53 :: 54 :: 55 :: 56 :: 57 :: 58 :: 59 :: 60 :: 61 :: 62 :: 63 :: 64 :: 65 :: 66 :: 67 :: 68 :: 69 :: 70 :: 0 :: []) (by decide) rfl
    rcases hE with ⟨hT9, rfl⟩ | ⟨hT9, rfl⟩
    · refine vx_catch hown [] ⟨0, 9, 12, 13⟩ [⟨0, 9, 15, 15⟩] (htb.trans rfl) (fun z hz => absurd hz List.not_mem_nil) rfl (by decide) (hts (.classLink RL 13 "java/lang/IllegalArgumentException") (List.mem_of_getElem? (i := 1) rfl)) (hF.at (w := .castable eIA eIA) (List.mem_of_getElem? (i := 3) rfl) rfl _) hq1 hq2 hq3 ?_
      refine lv_astore_n (lv' := [(3, .ref q9), (0, .ref (x 0)), (1, .int mm), (2, .ref r)]) hx hb dL_seatParty_12 rfl hl (by decide) rfl (fun ls hl => ?_)
      refine lv_iconst (v := nI 1) hx hb dL_seatParty_13 (by decide) ?_
      subst hw0
      exact kqw_n hx hb hrt hlocks hT9 (by decide) hP hD hS ⟨Nat.le_of_ble_eq_true rfl, Nat.le_of_ble_eq_true rfl⟩ dL_seatParty_14
    · refine vx_catch hown [⟨0, 9, 12, 13⟩] ⟨0, 9, 15, 15⟩ [] (htb.trans rfl) (fun z hz => by rcases List.mem_singleton.mp hz with rfl; exact Or.inr ⟨by decide, _, (hts (.classLink RL 13 "java/lang/IllegalArgumentException") (List.mem_of_getElem? (i := 1) rfl)), hF.2.2.1⟩) rfl (by decide) (hts (.classLink RL 15 "java/lang/IllegalStateException") (List.mem_of_getElem? (i := 2) rfl)) (hF.at (w := .castable eIS eIS) (List.mem_of_getElem? (i := 4) rfl) rfl _) hq1 hq2 hq3 ?_
      refine lv_astore_n (lv' := [(3, .ref q9), (0, .ref (x 0)), (1, .int mm), (2, .ref r)]) hx hb dL_seatParty_15 rfl hl (by decide) rfl (fun ls hl => ?_)
      refine lv_iconst (v := nI 2) hx hb dL_seatParty_16 (by decide) ?_
      subst hw0
      exact kqw_n hx hb hrt hlocks hT9 (by decide) hP hD hS ⟨Nat.le_of_ble_eq_true rfl, Nat.le_of_ble_eq_true rfl⟩ dL_seatParty_17
  · have hP : va_P D vwCl ([(x 0, .inr (4, [.ref (v 0), .ref (b 0), .ref (o 0), .ref (h 0), .ref (t 0)]))] ++ (HW b cI (partyZ z (cl (placeForI z (cl mm)) / 100) (cl (placeForI z (cl mm)) % 100) (cl mm)) ++ (SW v (b 0) cI (bI false) (lkP lk (people z) z pe) (lkP lk ((fun r s => colsW z r s (-1))) z cn) (lkP lk (rkN z) z rk) ++ (KWz h (kbK nk kb) cI cH (nI (nK nk)) (fun i => some ((kbK nk kb) i 0)) ((qK nk q z) 0) ((qK nk q z) 1) ((qK nk q z) 2) ((qK nk q z) 3) ((qK nk q z) 4) ((qK nk q z) 5) ++ ([(r, .inl (cL, 1, .inr (.inl go)))]))))) H := hP.sub (1 :: 2 :: 3 :: 4 :: 5 :: 6 :: 7 :: 8 :: 9 :: 10 :: 11 :: 12 :: 13 :: 14 :: 15 :: 16 :: 17 :: 18 :: 19 :: 20 :: 21 :: 22 :: 23 :: 24 :: 25 :: 26 :: 27 :: 28 :: 29 :: 30 :: 31 :: 32 :: 33 :: 34 :: 35 :: 36 :: 37 :: 38 :: 39 :: 40 :: 41 :: 42 :: 43 :: 44 :: 45 :: 46 :: 47 :: 48 :: 49 :: 50 :: 51 :: 52 :: 53 :: 54 :: 55 :: 56 :: 57 :: 58 :: 59 :: 60 :: 61 :: 62 :: 63 :: 64 :: 65 :: 66 :: 67 :: 68 :: 69 :: 70 :: 0 :: []) rfl
    have hD : va_D (kA w0) ([(x 0, .inr (4, [.ref (v 0), .ref (b 0), .ref (o 0), .ref (h 0), .ref (t 0)]))] ++ (HW b cI (partyZ z (cl (placeForI z (cl mm)) / 100) (cl (placeForI z (cl mm)) % 100) (cl mm)) ++ (SW v (b 0) cI (bI false) (lkP lk (people z) z pe) (lkP lk ((fun r s => colsW z r s (-1))) z cn) (lkP lk (rkN z) z rk) ++ (KWz h (kbK nk kb) cI cH (nI (nK nk)) (fun i => some ((kbK nk kb) i 0)) ((qK nk q z) 0) ((qK nk q z) 1) ((qK nk q z) 2) ((qK nk q z) 3) ((qK nk q z) 4) ((qK nk q z) 5) ++ ([(r, .inl (cL, 1, .inr (.inl go)))]))))) := hD.sub (1 :: 2 :: 3 :: 4 :: 5 :: 6 :: 7 :: 8 :: 9 :: 10 :: 11 :: 12 :: 13 :: 14 :: 15 :: 16 :: 17 :: 18 :: 19 :: 20 :: 21 :: 22 :: 23 :: 24 :: 25 :: 26 :: 27 :: 28 :: 29 :: 30 :: 31 :: 32 :: 33 :: 34 :: 35 :: 36 :: 37 :: 38 :: 39 :: 40 :: 41 :: 42 :: 43 :: 44 :: 45 :: 46 :: 47 :: 48 :: 49 :: 50 :: 51 :: 52 :: 53 :: 54 :: 55 :: 56 :: 57 :: 58 :: 59 :: 60 :: 61 :: 62 :: 63 :: 64 :: 65 :: 66 :: 67 :: 68 :: 69 :: 70 :: 0 :: []) (by decide) rfl
    refine lv_i2l hx hb dL_seatParty_7 rfl ?_
    refine kx_last hx hb hK hP hD hS 70 3 rfl rfl (by decide) (by decide) dL_seatParty_8 (fun H locs hP hD hS => ?_)
    have hP : va_P D vwCl ([(x 0, .inr (4, [.ref (v 0), .ref (b 0), .ref (o 0), .ref (h 0), .ref (t 0)]))] ++ (HW b cI (partyZ z (cl (placeForI z (cl mm)) / 100) (cl (placeForI z (cl mm)) % 100) (cl mm)) ++ (SW v (b 0) cI (bI false) (lkP lk (people z) z pe) (lkP lk ((fun r s => colsW z r s (-1))) z cn) (lkP lk (rkN z) z rk) ++ (KWz h (kbK nk kb) cI cH (nI (nK nk)) (fun i => some ((kbK nk kb) i 0)) ((qK nk q z) 0) ((qK nk q z) 1) ((qK nk q z) 2) ((qK nk q z) 3) ((qK nk q z) 4) ((qK nk q z) 5) ++ ([(r, .inl (cL, 1, .inr (.inl (vp_updL go 0 ((placeForI z (cl mm)).toInt64)))))]))))) H := hP
    have hD : va_D (kA w0) ([(x 0, .inr (4, [.ref (v 0), .ref (b 0), .ref (o 0), .ref (h 0), .ref (t 0)]))] ++ (HW b cI (partyZ z (cl (placeForI z (cl mm)) / 100) (cl (placeForI z (cl mm)) % 100) (cl mm)) ++ (SW v (b 0) cI (bI false) (lkP lk (people z) z pe) (lkP lk ((fun r s => colsW z r s (-1))) z cn) (lkP lk (rkN z) z rk) ++ (KWz h (kbK nk kb) cI cH (nI (nK nk)) (fun i => some ((kbK nk kb) i 0)) ((qK nk q z) 0) ((qK nk q z) 1) ((qK nk q z) 2) ((qK nk q z) 3) ((qK nk q z) 4) ((qK nk q z) 5) ++ ([(r, .inl (cL, 1, .inr (.inl (vp_updL go 0 ((placeForI z (cl mm)).toInt64)))))]))))) := hD
    refine lv_goto (tgt := 18) hx hb dL_seatParty_9 (by decide) ?_
    refine lv_iconst (v := nI 0) hx hb dL_seatParty_18 (by decide) ?_
    subst hw0
    exact kqw_0 hx hb hrt hlocks hT9 hP hD hS ⟨Nat.le_of_ble_eq_true rfl, Nat.le_of_ble_eq_true rfl⟩ dL_seatParty_19
set_option maxHeartbeats 4000000 in
set_option maxRecDepth 100000 in
theorem c_L_append (l : Launch) (hst : l.stackTraces = false) (D : va_G) (cI cC cH cL : ClassId) (y : Nat → Nat) (x b v u o h t : Nat → Nat) (ts tn : ZZ) (tl tt : Nat) (tb : Bool) (go : Nat → Int64) (c0 : Int32) (r : Nat) (hl : tl ≤ 60) : Met l yL_append wsL_append ({ frames := 7, cells := 1, slots := 6, locals := 103 }) (kwx y [.ref (x 0), .int c0, .ref r] D ([(x 0, .inr (4, [.ref (v 0), .ref (b 0), .ref (o 0), .ref (h 0), .ref (t 0)]))] ++ (TW t cC cI ts (nI tl) tn (nI tt) (bI tb) ++ ([(r, .inl (cL, 1, .inr (.inl go)))]))) (kT cI cC cH cL)) (kqw D ([(x 0, .inr (4, [.ref (v 0), .ref (b 0), .ref (o 0), .ref (h 0), .ref (t 0)]))] ++ (TW t cC cI ts (nI tl) tn (nI tt) (bI tb) ++ ([(r, .inl (cL, 1, .inr (.inl go)))]))) (tApp c0 tl) ([(x 0, .inr (4, [.ref (v 0), .ref (b 0), .ref (o 0), .ref (h 0), .ref (t 0)]))] ++ (TW t cC cI (upd ts tl c0) (nI (tl + 1)) tn (nI tt) (bI tb) ++ ([(r, .inl (cL, 1, .inr (.inl (vp_updL go 0 (nI (tl + 1)).toInt64))))]))) ([(x 0, .inr (4, [.ref (v 0), .ref (b 0), .ref (o 0), .ref (h 0), .ref (t 0)]))] ++ (TW t cC cI ts (nI tl) tn (nI tt) (bI tb) ++ ([(r, .inl (cL, 1, .inr (.inl go)))])))) 1 6 (kA ([(x 0, .inr (4, [.ref (v 0), .ref (b 0), .ref (o 0), .ref (h 0), .ref (t 0)]))] ++ (TW t cC cI ts (nI tl) tn (nI tt) (bI tb) ++ ([(r, .inl (cL, 1, .inr (.inl go)))])))) := by
  refine kx_ofWH (cc := cL_append) (maxL := 4) (ret := (some .int)) (by decide) rfl ?_
  intro p e s m args below meth c s₁ B hml htb hv
  obtain ⟨⟨rfl, hP, hK, hD0⟩, hX9, hF⟩ := hv
  have hx := B.exec
  have hb := B.bytes
  have hrt := B.returns
  have hts := atoms_spec (ws := wsL_append) B.pre
  have hown : s.vm.findClass RL = some m.cls := findClass_of_methodNamed B.named
  have hlocks := B.notSynchronized
  have hl := lv_entry ([.ref (x 0), .int c0, .ref r]) (n := 4) (Nat.le_of_ble_eq_true rfl)
  rw [lg_entry_eq]
  generalize (lg_sl ([.ref (x 0), .int c0, .ref r]) ++ List.replicate (4 - (lg_sl ([.ref (x 0), .int c0, .ref r])).length) Slot.unset).toArray = ls at hl ⊢
  have hl : lv_has ls 4 [(0, .ref (x 0)), (1, .int c0), (2, .ref r)] := hl
  have hD := kA_self hD0
  obtain ⟨w0, hw0⟩ : ∃ w : va_W, w = [(x 0, .inr (4, [.ref (v 0), .ref (b 0), .ref (o 0), .ref (h 0), .ref (t 0)]))] ++ (TW t cC cI ts (nI tl) tn (nI tt) (bI tb) ++ ([(r, .inl (cL, 1, .inr (.inl go)))])) := ⟨_, rfl⟩
  have hD : va_D (kA w0) ([(x 0, .inr (4, [.ref (v 0), .ref (b 0), .ref (o 0), .ref (h 0), .ref (t 0)]))] ++ (TW t cC cI ts (nI tl) tn (nI tt) (bI tb) ++ ([(r, .inl (cL, 1, .inr (.inl go)))]))) := by rw [hw0]; exact hD
  have hS : va_S (kA w0) s.heap s.heap [] := va_S.rf
  have hXx : hX y (kA w0) s s.heap := by rw [hw0]; exact hX9
  rw [show kA ([(x 0, .inr (4, [.ref (v 0), .ref (b 0), .ref (o 0), .ref (h 0), .ref (t 0)]))] ++ (TW t cC cI ts (nI tl) tn (nI tt) (bI tb) ++ ([(r, .inl (cL, 1, .inr (.inl go)))]))) = kA w0 from by rw [hw0], show kqw D ([(x 0, .inr (4, [.ref (v 0), .ref (b 0), .ref (o 0), .ref (h 0), .ref (t 0)]))] ++ (TW t cC cI ts (nI tl) tn (nI tt) (bI tb) ++ ([(r, .inl (cL, 1, .inr (.inl go)))]))) = kqw D w0 from by rw [hw0]]
  have hP : va_P D vwCl ([(x 0, .inr (4, [.ref (v 0), .ref (b 0), .ref (o 0), .ref (h 0), .ref (t 0)]))] ++ (TW t cC cI ts (nI tl) tn (nI tt) (bI tb) ++ ([(r, .inl (cL, 1, .inr (.inl go)))]))) s.heap := hP
  refine lv_aload_n hx hb dL_append_0 rfl (lv_at hl 2 rfl) ?_
  refine lv_iconst (v := nI 0) hx hb dL_append_1 (by decide) ?_
  refine lv_aload_n hx hb dL_append_2 rfl (lv_at hl 0 rfl) ?_
  refine lv_iload_n hx hb dL_append_3 rfl (lv_at hl 1 rfl) ?_
  refine kxV (As := [.int c0]) (rest := [.int (nI 0), .ref r]) (C := RX4) (own := RL) ⟨hx, hb, hml, hown, hts⟩ (c_X4_append l hst D cI cC cH cL y x b v u o h t ts tn tl tt tb c0 (by first | assumption | omega)) (cwV 1 hts gL_append_X4_append rfl rfl rfl k_X4_append ⟨Nat.le_of_ble_eq_true rfl, Nat.le_of_ble_eq_true rfl⟩) hP hD hK hS hXx hF [0, 1, 2, 3] [4] rfl rfl (wr := ([(r, .inl (cL, 1, .inr (.inl go)))])) rfl (by decide) (by decide) (by decide) (va_recv (q := (RX4, TX4, 5)) hK hP (ci := 4) (q0 := 0) rfl rfl) rfl hl.1 rfl (Nat.le_of_ble_eq_true rfl) dL_append_4 ⟨Nat.le_of_ble_eq_true rfl, Nat.le_of_ble_eq_true rfl⟩ (fun E9 ce9 q9 H locs hE hP hD hS hq1 hq2 hq3 => ?_) (fun H locs hT9 hP hD hS => ?_)
  · have hP : va_P D vwCl ([(x 0, .inr (4, [.ref (v 0), .ref (b 0), .ref (o 0), .ref (h 0), .ref (t 0)]))] ++ (TW t cC cI ts (nI tl) tn (nI tt) (bI tb) ++ ([(r, .inl (cL, 1, .inr (.inl go)))]))) H := hP.sub [1, 2, 3, 4, 0] rfl
    have hD : va_D (kA w0) ([(x 0, .inr (4, [.ref (v 0), .ref (b 0), .ref (o 0), .ref (h 0), .ref (t 0)]))] ++ (TW t cC cI ts (nI tl) tn (nI tt) (bI tb) ++ ([(r, .inl (cL, 1, .inr (.inl go)))]))) := hD.sub [1, 2, 3, 4, 0] (by decide) rfl
    rcases hE with ⟨hT9, rfl⟩ | ⟨hT9, rfl⟩
    · refine vx_catch hown [] ⟨0, 9, 12, 13⟩ [⟨0, 9, 15, 15⟩] (htb.trans rfl) (fun z hz => absurd hz List.not_mem_nil) rfl (by decide) (hts (.classLink RL 13 "java/lang/IllegalArgumentException") (List.mem_of_getElem? (i := 1) rfl)) (hF.at (w := .castable eIA eIA) (List.mem_of_getElem? (i := 3) rfl) rfl _) hq1 hq2 hq3 ?_
      refine lv_astore_n (lv' := [(3, .ref q9), (0, .ref (x 0)), (1, .int c0), (2, .ref r)]) hx hb dL_append_12 rfl hl (by decide) rfl (fun ls hl => ?_)
      refine lv_iconst (v := nI 1) hx hb dL_append_13 (by decide) ?_
      subst hw0
      exact kqw_n hx hb hrt hlocks hT9 (by decide) hP hD hS ⟨Nat.le_of_ble_eq_true rfl, Nat.le_of_ble_eq_true rfl⟩ dL_append_14
    · refine vx_catch hown [⟨0, 9, 12, 13⟩] ⟨0, 9, 15, 15⟩ [] (htb.trans rfl) (fun z hz => by rcases List.mem_singleton.mp hz with rfl; exact Or.inr ⟨by decide, _, (hts (.classLink RL 13 "java/lang/IllegalArgumentException") (List.mem_of_getElem? (i := 1) rfl)), hF.2.2.1⟩) rfl (by decide) (hts (.classLink RL 15 "java/lang/IllegalStateException") (List.mem_of_getElem? (i := 2) rfl)) (hF.at (w := .castable eIS eIS) (List.mem_of_getElem? (i := 4) rfl) rfl _) hq1 hq2 hq3 ?_
      refine lv_astore_n (lv' := [(3, .ref q9), (0, .ref (x 0)), (1, .int c0), (2, .ref r)]) hx hb dL_append_15 rfl hl (by decide) rfl (fun ls hl => ?_)
      refine lv_iconst (v := nI 2) hx hb dL_append_16 (by decide) ?_
      subst hw0
      exact kqw_n hx hb hrt hlocks hT9 (by decide) hP hD hS ⟨Nat.le_of_ble_eq_true rfl, Nat.le_of_ble_eq_true rfl⟩ dL_append_17
  · have hP : va_P D vwCl ([(x 0, .inr (4, [.ref (v 0), .ref (b 0), .ref (o 0), .ref (h 0), .ref (t 0)]))] ++ (TW t cC cI (upd ts tl c0) (nI (tl + 1)) tn (nI tt) (bI tb) ++ ([(r, .inl (cL, 1, .inr (.inl go)))]))) H := hP.sub [1, 2, 3, 4, 0] rfl
    have hD : va_D (kA w0) ([(x 0, .inr (4, [.ref (v 0), .ref (b 0), .ref (o 0), .ref (h 0), .ref (t 0)]))] ++ (TW t cC cI (upd ts tl c0) (nI (tl + 1)) tn (nI tt) (bI tb) ++ ([(r, .inl (cL, 1, .inr (.inl go)))]))) := hD.sub [1, 2, 3, 4, 0] (by decide) rfl
    refine lv_i2l hx hb dL_append_7 rfl ?_
    refine kx_last hx hb hK hP hD hS 4 3 rfl rfl (by decide) (by decide) dL_append_8 (fun H locs hP hD hS => ?_)
    have hP : va_P D vwCl ([(x 0, .inr (4, [.ref (v 0), .ref (b 0), .ref (o 0), .ref (h 0), .ref (t 0)]))] ++ (TW t cC cI (upd ts tl c0) (nI (tl + 1)) tn (nI tt) (bI tb) ++ ([(r, .inl (cL, 1, .inr (.inl (vp_updL go 0 ((nI (tl + 1)).toInt64)))))]))) H := hP
    have hD : va_D (kA w0) ([(x 0, .inr (4, [.ref (v 0), .ref (b 0), .ref (o 0), .ref (h 0), .ref (t 0)]))] ++ (TW t cC cI (upd ts tl c0) (nI (tl + 1)) tn (nI tt) (bI tb) ++ ([(r, .inl (cL, 1, .inr (.inl (vp_updL go 0 ((nI (tl + 1)).toInt64)))))]))) := hD
    refine lv_goto (tgt := 18) hx hb dL_append_9 (by decide) ?_
    refine lv_iconst (v := nI 0) hx hb dL_append_18 (by decide) ?_
    subst hw0
    exact kqw_0 hx hb hrt hlocks hT9 hP hD hS ⟨Nat.le_of_ble_eq_true rfl, Nat.le_of_ble_eq_true rfl⟩ dL_append_19
set_option maxHeartbeats 4000000 in
set_option maxRecDepth 100000 in
theorem c_L_addAll (l : Launch) (hst : l.stackTraces = false) (D : va_G) (cI cC cH cL : ClassId) (y : Nat → Nat) (x b v u o h t : Nat → Nat) (z : ZZ) (lk : Bool) (pe cn rk : ZZ) (kb : Nat → Nat → Nat) (nk : Nat) (q : Nat → ZZ) (ts tn : ZZ) (tl tt : Nat) (tb : Bool) (go : Nat → Int64) (r : Nat) (hw : WF z) (hn : nk ≤ 6) (hl : tl ≤ 60) (hok : cmpB ts tn tl = true → (finC ts tn tl).1 < 60 ∧ ∀ i q, q < 3 → i ≤ (finC ts tn tl).1 / 3 → okN q ((finC ts tn tl).2.2 (3 * i + q))) : Met l yL_addAll wsL_addAll ({ frames := 7, cells := 1, slots := 6, locals := 143 }) (kwx y [.ref (x 0), .ref r] D ([(x 0, .inr (4, [.ref (v 0), .ref (b 0), .ref (o 0), .ref (h 0), .ref (t 0)]))] ++ (HW b cI z ++ (SW v (b 0) cI (bI lk) pe cn rk ++ (KWz h kb cI cH (nI nk) (fun i => some (kb i 0)) (q 0) (q 1) (q 2) (q 3) (q 4) (q 5) ++ (TW t cC cI ts (nI tl) tn (nI tt) (bI tb) ++ ([(r, .inl (cL, 1, .inr (.inl go)))])))))) (kT cI cC cH cL)) (kqw D ([(x 0, .inr (4, [.ref (v 0), .ref (b 0), .ref (o 0), .ref (h 0), .ref (t 0)]))] ++ (HW b cI z ++ (SW v (b 0) cI (bI lk) pe cn rk ++ (KWz h kb cI cH (nI nk) (fun i => some (kb i 0)) (q 0) (q 1) (q 2) (q 3) (q 4) (q 5) ++ (TW t cC cI ts (nI tl) tn (nI tt) (bI tb) ++ ([(r, .inl (cL, 1, .inr (.inl go)))])))))) (if cmpB ts tn tl = true then 0 else 1) ([(x 0, .inr (4, [.ref (v 0), .ref (b 0), .ref (o 0), .ref (h 0), .ref (t 0)]))] ++ (HW b cI (adZ z ((finC ts tn tl).2.2) (adN z ((finC ts tn tl).2.2) ((finC ts tn tl).1 / 3 + 1))) ++ (SW v (b 0) cI (bI false) pe cn rk ++ (KWz h (kbK nk kb) cI cH (nI (nK nk)) (fun i => some ((kbK nk kb) i 0)) ((qK nk q z) 0) ((qK nk q z) 1) ((qK nk q z) 2) ((qK nk q z) 3) ((qK nk q z) 4) ((qK nk q z) 5) ++ (TW t cC cI ts (nI 0) ((finC ts tn tl).2.2) (nI ((finC ts tn tl).1)) (bI ((finC ts tn tl).2.1)) ++ ([(r, .inl (cL, 1, .inr (.inl (vp_updL go 0 (nI (adN z ((finC ts tn tl).2.2) ((finC ts tn tl).1 / 3 + 1))).toInt64))))])))))) ([(x 0, .inr (4, [.ref (v 0), .ref (b 0), .ref (o 0), .ref (h 0), .ref (t 0)]))] ++ (HW b cI z ++ (SW v (b 0) cI (bI lk) pe cn rk ++ (KWz h kb cI cH (nI nk) (fun i => some (kb i 0)) (q 0) (q 1) (q 2) (q 3) (q 4) (q 5) ++ (TW t cC cI ts (nI tl) ((finC ts tn tl).2.2) (nI ((finC ts tn tl).1)) (bI ((finC ts tn tl).2.1)) ++ ([(r, .inl (cL, 1, .inr (.inl go)))]))))))) 1 6 (kA ([(x 0, .inr (4, [.ref (v 0), .ref (b 0), .ref (o 0), .ref (h 0), .ref (t 0)]))] ++ (HW b cI z ++ (SW v (b 0) cI (bI lk) pe cn rk ++ (KWz h kb cI cH (nI nk) (fun i => some (kb i 0)) (q 0) (q 1) (q 2) (q 3) (q 4) (q 5) ++ (TW t cC cI ts (nI tl) tn (nI tt) (bI tb) ++ ([(r, .inl (cL, 1, .inr (.inl go)))]))))))) := by
  refine kx_ofWH (cc := cL_addAll) (maxL := 3) (ret := (some .int)) (by decide) rfl ?_
  intro p e s m args below meth c s₁ B hml htb hv
  obtain ⟨⟨rfl, hP, hK, hD0⟩, hX9, hF⟩ := hv
  have hx := B.exec
  have hb := B.bytes
  have hrt := B.returns
  have hts := atoms_spec (ws := wsL_addAll) B.pre
  have hown : s.vm.findClass RL = some m.cls := findClass_of_methodNamed B.named
  have hlocks := B.notSynchronized
  have hl := lv_entry ([.ref (x 0), .ref r]) (n := 3) (Nat.le_of_ble_eq_true rfl)
  rw [lg_entry_eq]
  generalize (lg_sl ([.ref (x 0), .ref r]) ++ List.replicate (3 - (lg_sl ([.ref (x 0), .ref r])).length) Slot.unset).toArray = ls at hl ⊢
  have hl : lv_has ls 3 [(0, .ref (x 0)), (1, .ref r)] := hl
  have hD := kA_self hD0
  obtain ⟨w0, hw0⟩ : ∃ w : va_W, w = [(x 0, .inr (4, [.ref (v 0), .ref (b 0), .ref (o 0), .ref (h 0), .ref (t 0)]))] ++ (HW b cI z ++ (SW v (b 0) cI (bI lk) pe cn rk ++ (KWz h kb cI cH (nI nk) (fun i => some (kb i 0)) (q 0) (q 1) (q 2) (q 3) (q 4) (q 5) ++ (TW t cC cI ts (nI tl) tn (nI tt) (bI tb) ++ ([(r, .inl (cL, 1, .inr (.inl go)))]))))) := ⟨_, rfl⟩
  have hD : va_D (kA w0) ([(x 0, .inr (4, [.ref (v 0), .ref (b 0), .ref (o 0), .ref (h 0), .ref (t 0)]))] ++ (HW b cI z ++ (SW v (b 0) cI (bI lk) pe cn rk ++ (KWz h kb cI cH (nI nk) (fun i => some (kb i 0)) (q 0) (q 1) (q 2) (q 3) (q 4) (q 5) ++ (TW t cC cI ts (nI tl) tn (nI tt) (bI tb) ++ ([(r, .inl (cL, 1, .inr (.inl go)))])))))) := by rw [hw0]; exact hD
  have hS : va_S (kA w0) s.heap s.heap [] := va_S.rf
  have hXx : hX y (kA w0) s s.heap := by rw [hw0]; exact hX9
  rw [show kA ([(x 0, .inr (4, [.ref (v 0), .ref (b 0), .ref (o 0), .ref (h 0), .ref (t 0)]))] ++ (HW b cI z ++ (SW v (b 0) cI (bI lk) pe cn rk ++ (KWz h kb cI cH (nI nk) (fun i => some (kb i 0)) (q 0) (q 1) (q 2) (q 3) (q 4) (q 5) ++ (TW t cC cI ts (nI tl) tn (nI tt) (bI tb) ++ ([(r, .inl (cL, 1, .inr (.inl go)))])))))) = kA w0 from by rw [hw0], show kqw D ([(x 0, .inr (4, [.ref (v 0), .ref (b 0), .ref (o 0), .ref (h 0), .ref (t 0)]))] ++ (HW b cI z ++ (SW v (b 0) cI (bI lk) pe cn rk ++ (KWz h kb cI cH (nI nk) (fun i => some (kb i 0)) (q 0) (q 1) (q 2) (q 3) (q 4) (q 5) ++ (TW t cC cI ts (nI tl) tn (nI tt) (bI tb) ++ ([(r, .inl (cL, 1, .inr (.inl go)))])))))) = kqw D w0 from by rw [hw0]]
  have hP : va_P D vwCl ([(x 0, .inr (4, [.ref (v 0), .ref (b 0), .ref (o 0), .ref (h 0), .ref (t 0)]))] ++ (HW b cI z ++ (SW v (b 0) cI (bI lk) pe cn rk ++ (KWz h kb cI cH (nI nk) (fun i => some (kb i 0)) (q 0) (q 1) (q 2) (q 3) (q 4) (q 5) ++ (TW t cC cI ts (nI tl) tn (nI tt) (bI tb) ++ ([(r, .inl (cL, 1, .inr (.inl go)))])))))) s.heap := hP
  refine lv_aload_n hx hb dL_addAll_0 rfl (lv_at hl 1 rfl) ?_
  refine lv_iconst (v := nI 0) hx hb dL_addAll_1 (by decide) ?_
  refine lv_aload_n hx hb dL_addAll_2 rfl (lv_at hl 0 rfl) ?_
  refine kxV (As := []) (rest := [.int (nI 0), .ref r]) (C := RX4) (own := RL) ⟨hx, hb, hml, hown, hts⟩ (c_X4_addAll l hst D cI cC cH cL y x b v u o h t z lk pe cn rk kb nk q ts tn tl tt tb  (by first | assumption | omega) (by first | assumption | omega) (by first | assumption | omega) (by first | assumption | omega)) (cwV 0 hts gL_addAll_X4_addAll rfl rfl rfl k_X4_addAll ⟨Nat.le_of_ble_eq_true rfl, Nat.le_of_ble_eq_true rfl⟩) hP hD hK hS hXx hF (0 :: 1 :: 2 :: 3 :: 4 :: 5 :: 6 :: 7 :: 8 :: 9 :: 10 :: 11 :: 12 :: 13 :: 14 :: 15 :: 16 :: 17 :: 18 :: 19 :: 20 :: 21 :: 22 :: 23 :: 24 :: 25 :: 26 :: 27 :: 28 :: 29 :: 30 :: 31 :: 32 :: 33 :: 34 :: 35 :: 36 :: 37 :: 38 :: 39 :: 40 :: 41 :: 42 :: 43 :: 44 :: 45 :: 46 :: 47 :: 48 :: 49 :: 50 :: 51 :: 52 :: 53 :: 54 :: 55 :: 56 :: 57 :: 58 :: 59 :: 60 :: 61 :: 62 :: 63 :: 64 :: 65 :: 66 :: 67 :: 68 :: 69 :: 70 :: 71 :: 72 :: []) [73] rfl rfl (wr := ([(r, .inl (cL, 1, .inr (.inl go)))])) rfl (by decide) (by decide) (by decide) (va_recv (q := (RX4, TX4, 5)) hK hP (ci := 4) (q0 := 0) rfl rfl) rfl hl.1 rfl (Nat.le_of_ble_eq_true rfl) dL_addAll_3 ⟨Nat.le_of_ble_eq_true rfl, Nat.le_of_ble_eq_true rfl⟩ (fun E9 ce9 q9 H locs hE hP hD hS hq1 hq2 hq3 => ?_) (fun H locs hT9 hP hD hS => ?_)
  · have hP : va_P D vwCl ([(x 0, .inr (4, [.ref (v 0), .ref (b 0), .ref (o 0), .ref (h 0), .ref (t 0)]))] ++ (HW b cI z ++ (SW v (b 0) cI (bI lk) pe cn rk ++ (KWz h kb cI cH (nI nk) (fun i => some (kb i 0)) (q 0) (q 1) (q 2) (q 3) (q 4) (q 5) ++ (TW t cC cI ts (nI tl) ((finC ts tn tl).2.2) (nI ((finC ts tn tl).1)) (bI ((finC ts tn tl).2.1)) ++ ([(r, .inl (cL, 1, .inr (.inl go)))])))))) H := hP.sub (1 :: 2 :: 3 :: 4 :: 5 :: 6 :: 7 :: 8 :: 9 :: 10 :: 11 :: 12 :: 13 :: 14 :: 15 :: 16 :: 17 :: 18 :: 19 :: 20 :: 21 :: 22 :: 23 :: 24 :: 25 :: 26 :: 27 :: 28 :: 29 :: 30 :: 31 :: 32 :: 33 :: 34 :: 35 :: 36 :: 37 :: 38 :: 39 :: 40 :: 41 :: 42 :: 43 :: 44 :: 45 :: 46 :: 47 :: 48 :: 49 :: 50 :: 51 :: 52 :: 53 :: 54 :: 55 :: 56 :: 57 :: 58 :: 59 :: 60 :: 61 :: 62 :: 63 :: 64 :: 65 :: 66 :: 67 :: 68 :: 69 :: 70 :: 71 :: 72 :: 73 :: 0 :: []) rfl
    have hD : va_D (kA w0) ([(x 0, .inr (4, [.ref (v 0), .ref (b 0), .ref (o 0), .ref (h 0), .ref (t 0)]))] ++ (HW b cI z ++ (SW v (b 0) cI (bI lk) pe cn rk ++ (KWz h kb cI cH (nI nk) (fun i => some (kb i 0)) (q 0) (q 1) (q 2) (q 3) (q 4) (q 5) ++ (TW t cC cI ts (nI tl) ((finC ts tn tl).2.2) (nI ((finC ts tn tl).1)) (bI ((finC ts tn tl).2.1)) ++ ([(r, .inl (cL, 1, .inr (.inl go)))])))))) := hD.sub (1 :: 2 :: 3 :: 4 :: 5 :: 6 :: 7 :: 8 :: 9 :: 10 :: 11 :: 12 :: 13 :: 14 :: 15 :: 16 :: 17 :: 18 :: 19 :: 20 :: 21 :: 22 :: 23 :: 24 :: 25 :: 26 :: 27 :: 28 :: 29 :: 30 :: 31 :: 32 :: 33 :: 34 :: 35 :: 36 :: 37 :: 38 :: 39 :: 40 :: 41 :: 42 :: 43 :: 44 :: 45 :: 46 :: 47 :: 48 :: 49 :: 50 :: 51 :: 52 :: 53 :: 54 :: 55 :: 56 :: 57 :: 58 :: 59 :: 60 :: 61 :: 62 :: 63 :: 64 :: 65 :: 66 :: 67 :: 68 :: 69 :: 70 :: 71 :: 72 :: 73 :: 0 :: []) (by decide) rfl
    rcases hE with ⟨hT9, rfl⟩ | ⟨hT9, rfl⟩
    · refine vx_catch hown [] ⟨0, 8, 11, 13⟩ [] (htb.trans rfl) (fun z hz => absurd hz List.not_mem_nil) rfl (by decide) (hts (.classLink RL 13 "java/lang/IllegalArgumentException") (List.mem_of_getElem? (i := 1) rfl)) (hF.at (w := .castable eIA eIA) (List.mem_of_getElem? (i := 3) rfl) rfl _) hq1 hq2 hq3 ?_
      refine lv_astore_n (lv' := [(2, .ref q9), (0, .ref (x 0)), (1, .ref r)]) hx hb dL_addAll_11 rfl hl (by decide) rfl (fun ls hl => ?_)
      refine lv_iconst (v := nI 1) hx hb dL_addAll_12 (by decide) ?_
      subst hw0
      exact kqw_n hx hb hrt hlocks hT9 (by decide) hP hD hS ⟨Nat.le_of_ble_eq_true rfl, Nat.le_of_ble_eq_true rfl⟩ dL_addAll_13
    · exact absurd hT9 (by split <;> omega)
  · have hP : va_P D vwCl ([(x 0, .inr (4, [.ref (v 0), .ref (b 0), .ref (o 0), .ref (h 0), .ref (t 0)]))] ++ (HW b cI (adZ z ((finC ts tn tl).2.2) (adN z ((finC ts tn tl).2.2) ((finC ts tn tl).1 / 3 + 1))) ++ (SW v (b 0) cI (bI false) pe cn rk ++ (KWz h (kbK nk kb) cI cH (nI (nK nk)) (fun i => some ((kbK nk kb) i 0)) ((qK nk q z) 0) ((qK nk q z) 1) ((qK nk q z) 2) ((qK nk q z) 3) ((qK nk q z) 4) ((qK nk q z) 5) ++ (TW t cC cI ts (nI 0) ((finC ts tn tl).2.2) (nI ((finC ts tn tl).1)) (bI ((finC ts tn tl).2.1)) ++ ([(r, .inl (cL, 1, .inr (.inl go)))])))))) H := hP.sub (1 :: 2 :: 3 :: 4 :: 5 :: 6 :: 7 :: 8 :: 9 :: 10 :: 11 :: 12 :: 13 :: 14 :: 15 :: 16 :: 17 :: 18 :: 19 :: 20 :: 21 :: 22 :: 23 :: 24 :: 25 :: 26 :: 27 :: 28 :: 29 :: 30 :: 31 :: 32 :: 33 :: 34 :: 35 :: 36 :: 37 :: 38 :: 39 :: 40 :: 41 :: 42 :: 43 :: 44 :: 45 :: 46 :: 47 :: 48 :: 49 :: 50 :: 51 :: 52 :: 53 :: 54 :: 55 :: 56 :: 57 :: 58 :: 59 :: 60 :: 61 :: 62 :: 63 :: 64 :: 65 :: 66 :: 67 :: 68 :: 69 :: 70 :: 71 :: 72 :: 73 :: 0 :: []) rfl
    have hD : va_D (kA w0) ([(x 0, .inr (4, [.ref (v 0), .ref (b 0), .ref (o 0), .ref (h 0), .ref (t 0)]))] ++ (HW b cI (adZ z ((finC ts tn tl).2.2) (adN z ((finC ts tn tl).2.2) ((finC ts tn tl).1 / 3 + 1))) ++ (SW v (b 0) cI (bI false) pe cn rk ++ (KWz h (kbK nk kb) cI cH (nI (nK nk)) (fun i => some ((kbK nk kb) i 0)) ((qK nk q z) 0) ((qK nk q z) 1) ((qK nk q z) 2) ((qK nk q z) 3) ((qK nk q z) 4) ((qK nk q z) 5) ++ (TW t cC cI ts (nI 0) ((finC ts tn tl).2.2) (nI ((finC ts tn tl).1)) (bI ((finC ts tn tl).2.1)) ++ ([(r, .inl (cL, 1, .inr (.inl go)))])))))) := hD.sub (1 :: 2 :: 3 :: 4 :: 5 :: 6 :: 7 :: 8 :: 9 :: 10 :: 11 :: 12 :: 13 :: 14 :: 15 :: 16 :: 17 :: 18 :: 19 :: 20 :: 21 :: 22 :: 23 :: 24 :: 25 :: 26 :: 27 :: 28 :: 29 :: 30 :: 31 :: 32 :: 33 :: 34 :: 35 :: 36 :: 37 :: 38 :: 39 :: 40 :: 41 :: 42 :: 43 :: 44 :: 45 :: 46 :: 47 :: 48 :: 49 :: 50 :: 51 :: 52 :: 53 :: 54 :: 55 :: 56 :: 57 :: 58 :: 59 :: 60 :: 61 :: 62 :: 63 :: 64 :: 65 :: 66 :: 67 :: 68 :: 69 :: 70 :: 71 :: 72 :: 73 :: 0 :: []) (by decide) rfl
    refine lv_i2l hx hb dL_addAll_6 rfl ?_
    refine kx_last hx hb hK hP hD hS 73 3 rfl rfl (by decide) (by decide) dL_addAll_7 (fun H locs hP hD hS => ?_)
    have hP : va_P D vwCl ([(x 0, .inr (4, [.ref (v 0), .ref (b 0), .ref (o 0), .ref (h 0), .ref (t 0)]))] ++ (HW b cI (adZ z ((finC ts tn tl).2.2) (adN z ((finC ts tn tl).2.2) ((finC ts tn tl).1 / 3 + 1))) ++ (SW v (b 0) cI (bI false) pe cn rk ++ (KWz h (kbK nk kb) cI cH (nI (nK nk)) (fun i => some ((kbK nk kb) i 0)) ((qK nk q z) 0) ((qK nk q z) 1) ((qK nk q z) 2) ((qK nk q z) 3) ((qK nk q z) 4) ((qK nk q z) 5) ++ (TW t cC cI ts (nI 0) ((finC ts tn tl).2.2) (nI ((finC ts tn tl).1)) (bI ((finC ts tn tl).2.1)) ++ ([(r, .inl (cL, 1, .inr (.inl (vp_updL go 0 ((nI (adN z ((finC ts tn tl).2.2) ((finC ts tn tl).1 / 3 + 1))).toInt64)))))])))))) H := hP
    have hD : va_D (kA w0) ([(x 0, .inr (4, [.ref (v 0), .ref (b 0), .ref (o 0), .ref (h 0), .ref (t 0)]))] ++ (HW b cI (adZ z ((finC ts tn tl).2.2) (adN z ((finC ts tn tl).2.2) ((finC ts tn tl).1 / 3 + 1))) ++ (SW v (b 0) cI (bI false) pe cn rk ++ (KWz h (kbK nk kb) cI cH (nI (nK nk)) (fun i => some ((kbK nk kb) i 0)) ((qK nk q z) 0) ((qK nk q z) 1) ((qK nk q z) 2) ((qK nk q z) 3) ((qK nk q z) 4) ((qK nk q z) 5) ++ (TW t cC cI ts (nI 0) ((finC ts tn tl).2.2) (nI ((finC ts tn tl).1)) (bI ((finC ts tn tl).2.1)) ++ ([(r, .inl (cL, 1, .inr (.inl (vp_updL go 0 ((nI (adN z ((finC ts tn tl).2.2) ((finC ts tn tl).1 / 3 + 1))).toInt64)))))])))))) := hD
    refine lv_goto (tgt := 14) hx hb dL_addAll_8 (by decide) ?_
    refine lv_iconst (v := nI 0) hx hb dL_addAll_14 (by decide) ?_
    subst hw0
    exact kqw_0 hx hb hrt hlocks hT9 hP hD hS ⟨Nat.le_of_ble_eq_true rfl, Nat.le_of_ble_eq_true rfl⟩ dL_addAll_15
set_option maxHeartbeats 4000000 in
set_option maxRecDepth 100000 in
theorem c_L_undo (l : Launch) (hst : l.stackTraces = false) (D : va_G) (cI cC cH cL : ClassId) (y : Nat → Nat) (x b v u o h t : Nat → Nat) (z : ZZ) (lk : Bool) (pe cn rk : ZZ) (kb : Nat → Nat → Nat) (nk : Nat) (q : Nat → ZZ) (go : Nat → Int64) (r : Nat) (hn : nk ≤ 6) : Met l yL_undo wsL_undo ({ frames := 7, cells := 1, slots := 6, locals := 122 }) (kwx y [.ref (x 0), .ref r] D ([(x 0, .inr (4, [.ref (v 0), .ref (b 0), .ref (o 0), .ref (h 0), .ref (t 0)]))] ++ (HW b cI z ++ (SW v (b 0) cI (bI lk) pe cn rk ++ (KWz h kb cI cH (nI nk) (fun i => some (kb i 0)) (q 0) (q 1) (q 2) (q 3) (q 4) (q 5) ++ ([(r, .inl (cL, 1, .inr (.inl go)))]))))) (kT cI cC cH cL)) (kqw D ([(x 0, .inr (4, [.ref (v 0), .ref (b 0), .ref (o 0), .ref (h 0), .ref (t 0)]))] ++ (HW b cI z ++ (SW v (b 0) cI (bI lk) pe cn rk ++ (KWz h kb cI cH (nI nk) (fun i => some (kb i 0)) (q 0) (q 1) (q 2) (q 3) (q 4) (q 5) ++ ([(r, .inl (cL, 1, .inr (.inl go)))]))))) (if nk = 0 then 1 else 0) ([(x 0, .inr (4, [.ref (v 0), .ref (b 0), .ref (o 0), .ref (h 0), .ref (t 0)]))] ++ (HW b cI (q (nk - 1)) ++ (SW v (b 0) cI (bI false) pe cn rk ++ (KWz h kb cI cH (nI (nk - 1)) (fun i => some (kb i 0)) (q 0) (q 1) (q 2) (q 3) (q 4) (q 5) ++ ([(r, .inl (cL, 1, .inr (.inl (vp_updL go 0 (nI (nk - 1)).toInt64))))]))))) ([(x 0, .inr (4, [.ref (v 0), .ref (b 0), .ref (o 0), .ref (h 0), .ref (t 0)]))] ++ (HW b cI z ++ (SW v (b 0) cI (bI lk) pe cn rk ++ (KWz h kb cI cH (nI nk) (fun i => some (kb i 0)) (q 0) (q 1) (q 2) (q 3) (q 4) (q 5) ++ ([(r, .inl (cL, 1, .inr (.inl go)))])))))) 1 6 (kA ([(x 0, .inr (4, [.ref (v 0), .ref (b 0), .ref (o 0), .ref (h 0), .ref (t 0)]))] ++ (HW b cI z ++ (SW v (b 0) cI (bI lk) pe cn rk ++ (KWz h kb cI cH (nI nk) (fun i => some (kb i 0)) (q 0) (q 1) (q 2) (q 3) (q 4) (q 5) ++ ([(r, .inl (cL, 1, .inr (.inl go)))])))))) := by
  refine kx_ofWH (cc := cL_undo) (maxL := 3) (ret := (some .int)) (by decide) rfl ?_
  intro p e s m args below meth c s₁ B hml htb hv
  obtain ⟨⟨rfl, hP, hK, hD0⟩, hX9, hF⟩ := hv
  have hx := B.exec
  have hb := B.bytes
  have hrt := B.returns
  have hts := atoms_spec (ws := wsL_undo) B.pre
  have hown : s.vm.findClass RL = some m.cls := findClass_of_methodNamed B.named
  have hlocks := B.notSynchronized
  have hl := lv_entry ([.ref (x 0), .ref r]) (n := 3) (Nat.le_of_ble_eq_true rfl)
  rw [lg_entry_eq]
  generalize (lg_sl ([.ref (x 0), .ref r]) ++ List.replicate (3 - (lg_sl ([.ref (x 0), .ref r])).length) Slot.unset).toArray = ls at hl ⊢
  have hl : lv_has ls 3 [(0, .ref (x 0)), (1, .ref r)] := hl
  have hD := kA_self hD0
  obtain ⟨w0, hw0⟩ : ∃ w : va_W, w = [(x 0, .inr (4, [.ref (v 0), .ref (b 0), .ref (o 0), .ref (h 0), .ref (t 0)]))] ++ (HW b cI z ++ (SW v (b 0) cI (bI lk) pe cn rk ++ (KWz h kb cI cH (nI nk) (fun i => some (kb i 0)) (q 0) (q 1) (q 2) (q 3) (q 4) (q 5) ++ ([(r, .inl (cL, 1, .inr (.inl go)))])))) := ⟨_, rfl⟩
  have hD : va_D (kA w0) ([(x 0, .inr (4, [.ref (v 0), .ref (b 0), .ref (o 0), .ref (h 0), .ref (t 0)]))] ++ (HW b cI z ++ (SW v (b 0) cI (bI lk) pe cn rk ++ (KWz h kb cI cH (nI nk) (fun i => some (kb i 0)) (q 0) (q 1) (q 2) (q 3) (q 4) (q 5) ++ ([(r, .inl (cL, 1, .inr (.inl go)))]))))) := by rw [hw0]; exact hD
  have hS : va_S (kA w0) s.heap s.heap [] := va_S.rf
  have hXx : hX y (kA w0) s s.heap := by rw [hw0]; exact hX9
  rw [show kA ([(x 0, .inr (4, [.ref (v 0), .ref (b 0), .ref (o 0), .ref (h 0), .ref (t 0)]))] ++ (HW b cI z ++ (SW v (b 0) cI (bI lk) pe cn rk ++ (KWz h kb cI cH (nI nk) (fun i => some (kb i 0)) (q 0) (q 1) (q 2) (q 3) (q 4) (q 5) ++ ([(r, .inl (cL, 1, .inr (.inl go)))]))))) = kA w0 from by rw [hw0], show kqw D ([(x 0, .inr (4, [.ref (v 0), .ref (b 0), .ref (o 0), .ref (h 0), .ref (t 0)]))] ++ (HW b cI z ++ (SW v (b 0) cI (bI lk) pe cn rk ++ (KWz h kb cI cH (nI nk) (fun i => some (kb i 0)) (q 0) (q 1) (q 2) (q 3) (q 4) (q 5) ++ ([(r, .inl (cL, 1, .inr (.inl go)))]))))) = kqw D w0 from by rw [hw0]]
  have hP : va_P D vwCl ([(x 0, .inr (4, [.ref (v 0), .ref (b 0), .ref (o 0), .ref (h 0), .ref (t 0)]))] ++ (HW b cI z ++ (SW v (b 0) cI (bI lk) pe cn rk ++ (KWz h kb cI cH (nI nk) (fun i => some (kb i 0)) (q 0) (q 1) (q 2) (q 3) (q 4) (q 5) ++ ([(r, .inl (cL, 1, .inr (.inl go)))]))))) s.heap := hP
  refine lv_aload_n hx hb dL_undo_0 rfl (lv_at hl 1 rfl) ?_
  refine lv_iconst (v := nI 0) hx hb dL_undo_1 (by decide) ?_
  refine lv_aload_n hx hb dL_undo_2 rfl (lv_at hl 0 rfl) ?_
  refine kxV (As := []) (rest := [.int (nI 0), .ref r]) (C := RX4) (own := RL) ⟨hx, hb, hml, hown, hts⟩ (c_X4_undo l hst D cI cC cH cL y x b v u o h t z lk pe cn rk kb nk q  (by first | assumption | omega)) (cwV 0 hts gL_undo_X4_undo rfl rfl rfl k_X4_undo ⟨Nat.le_of_ble_eq_true rfl, Nat.le_of_ble_eq_true rfl⟩) hP hD hK hS hXx hF (0 :: 1 :: 2 :: 3 :: 4 :: 5 :: 6 :: 7 :: 8 :: 9 :: 10 :: 11 :: 12 :: 13 :: 14 :: 15 :: 16 :: 17 :: 18 :: 19 :: 20 :: 21 :: 22 :: 23 :: 24 :: 25 :: 26 :: 27 :: 28 :: 29 :: 30 :: 31 :: 32 :: 33 :: 34 :: 35 :: 36 :: 37 :: 38 :: 39 :: 40 :: 41 :: 42 :: 43 :: 44 :: 45 :: 46 :: 47 :: 48 :: 49 :: 50 :: 51 :: 52 :: 53 :: 54 :: 55 :: 56 :: 57 :: 58 :: 59 :: 60 :: 61 :: 62 :: 63 :: 64 :: 65 :: 66 :: 67 :: 68 :: 69 :: []) [70] rfl rfl (wr := ([(r, .inl (cL, 1, .inr (.inl go)))])) rfl (by decide) (by decide) (by decide) (va_recv (q := (RX4, TX4, 5)) hK hP (ci := 4) (q0 := 0) rfl rfl) rfl hl.1 rfl (Nat.le_of_ble_eq_true rfl) dL_undo_3 ⟨Nat.le_of_ble_eq_true rfl, Nat.le_of_ble_eq_true rfl⟩ (fun E9 ce9 q9 H locs hE hP hD hS hq1 hq2 hq3 => ?_) (fun H locs hT9 hP hD hS => ?_)
  · have hP : va_P D vwCl ([(x 0, .inr (4, [.ref (v 0), .ref (b 0), .ref (o 0), .ref (h 0), .ref (t 0)]))] ++ (HW b cI z ++ (SW v (b 0) cI (bI lk) pe cn rk ++ (KWz h kb cI cH (nI nk) (fun i => some (kb i 0)) (q 0) (q 1) (q 2) (q 3) (q 4) (q 5) ++ ([(r, .inl (cL, 1, .inr (.inl go)))]))))) H := hP.sub (1 :: 2 :: 3 :: 4 :: 5 :: 6 :: 7 :: 8 :: 9 :: 10 :: 11 :: 12 :: 13 :: 14 :: 15 :: 16 :: 17 :: 18 :: 19 :: 20 :: 21 :: 22 :: 23 :: 24 :: 25 :: 26 :: 27 :: 28 :: 29 :: 30 :: 31 :: 32 :: 33 :: 34 :: 35 :: 36 :: 37 :: 38 :: 39 :: 40 :: 41 :: 42 :: 43 :: 44 :: 45 :: 46 :: 47 :: 48 :: 49 :: 50 :: 51 :: 52 :: 53 :: 54 :: 55 :: 56 :: 57 :: 58 :: 59 :: 60 :: 61 :: 62 :: 63 :: 64 :: 65 :: 66 :: 67 :: 68 :: 69 :: 70 :: 0 :: []) rfl
    have hD : va_D (kA w0) ([(x 0, .inr (4, [.ref (v 0), .ref (b 0), .ref (o 0), .ref (h 0), .ref (t 0)]))] ++ (HW b cI z ++ (SW v (b 0) cI (bI lk) pe cn rk ++ (KWz h kb cI cH (nI nk) (fun i => some (kb i 0)) (q 0) (q 1) (q 2) (q 3) (q 4) (q 5) ++ ([(r, .inl (cL, 1, .inr (.inl go)))]))))) := hD.sub (1 :: 2 :: 3 :: 4 :: 5 :: 6 :: 7 :: 8 :: 9 :: 10 :: 11 :: 12 :: 13 :: 14 :: 15 :: 16 :: 17 :: 18 :: 19 :: 20 :: 21 :: 22 :: 23 :: 24 :: 25 :: 26 :: 27 :: 28 :: 29 :: 30 :: 31 :: 32 :: 33 :: 34 :: 35 :: 36 :: 37 :: 38 :: 39 :: 40 :: 41 :: 42 :: 43 :: 44 :: 45 :: 46 :: 47 :: 48 :: 49 :: 50 :: 51 :: 52 :: 53 :: 54 :: 55 :: 56 :: 57 :: 58 :: 59 :: 60 :: 61 :: 62 :: 63 :: 64 :: 65 :: 66 :: 67 :: 68 :: 69 :: 70 :: 0 :: []) (by decide) rfl
    rcases hE with ⟨hT9, rfl⟩ | ⟨hT9, rfl⟩
    · refine vx_catch hown [] ⟨0, 8, 11, 15⟩ [] (htb.trans rfl) (fun z hz => absurd hz List.not_mem_nil) rfl (by decide) (hts (.classLink RL 15 "java/lang/IllegalStateException") (List.mem_of_getElem? (i := 1) rfl)) (hF.at (w := .castable eIS eIS) (List.mem_of_getElem? (i := 4) rfl) rfl _) hq1 hq2 hq3 ?_
      refine lv_astore_n (lv' := [(2, .ref q9), (0, .ref (x 0)), (1, .ref r)]) hx hb dL_undo_11 rfl hl (by decide) rfl (fun ls hl => ?_)
      refine lv_iconst (v := nI 1) hx hb dL_undo_12 (by decide) ?_
      subst hw0
      exact kqw_n hx hb hrt hlocks hT9 (by decide) hP hD hS ⟨Nat.le_of_ble_eq_true rfl, Nat.le_of_ble_eq_true rfl⟩ dL_undo_13
    · exact absurd hT9 (by split <;> omega)
  · have hP : va_P D vwCl ([(x 0, .inr (4, [.ref (v 0), .ref (b 0), .ref (o 0), .ref (h 0), .ref (t 0)]))] ++ (HW b cI (q (nk - 1)) ++ (SW v (b 0) cI (bI false) pe cn rk ++ (KWz h kb cI cH (nI (nk - 1)) (fun i => some (kb i 0)) (q 0) (q 1) (q 2) (q 3) (q 4) (q 5) ++ ([(r, .inl (cL, 1, .inr (.inl go)))]))))) H := hP.sub (1 :: 2 :: 3 :: 4 :: 5 :: 6 :: 7 :: 8 :: 9 :: 10 :: 11 :: 12 :: 13 :: 14 :: 15 :: 16 :: 17 :: 18 :: 19 :: 20 :: 21 :: 22 :: 23 :: 24 :: 25 :: 26 :: 27 :: 28 :: 29 :: 30 :: 31 :: 32 :: 33 :: 34 :: 35 :: 36 :: 37 :: 38 :: 39 :: 40 :: 41 :: 42 :: 43 :: 44 :: 45 :: 46 :: 47 :: 48 :: 49 :: 50 :: 51 :: 52 :: 53 :: 54 :: 55 :: 56 :: 57 :: 58 :: 59 :: 60 :: 61 :: 62 :: 63 :: 64 :: 65 :: 66 :: 67 :: 68 :: 69 :: 70 :: 0 :: []) rfl
    have hD : va_D (kA w0) ([(x 0, .inr (4, [.ref (v 0), .ref (b 0), .ref (o 0), .ref (h 0), .ref (t 0)]))] ++ (HW b cI (q (nk - 1)) ++ (SW v (b 0) cI (bI false) pe cn rk ++ (KWz h kb cI cH (nI (nk - 1)) (fun i => some (kb i 0)) (q 0) (q 1) (q 2) (q 3) (q 4) (q 5) ++ ([(r, .inl (cL, 1, .inr (.inl go)))]))))) := hD.sub (1 :: 2 :: 3 :: 4 :: 5 :: 6 :: 7 :: 8 :: 9 :: 10 :: 11 :: 12 :: 13 :: 14 :: 15 :: 16 :: 17 :: 18 :: 19 :: 20 :: 21 :: 22 :: 23 :: 24 :: 25 :: 26 :: 27 :: 28 :: 29 :: 30 :: 31 :: 32 :: 33 :: 34 :: 35 :: 36 :: 37 :: 38 :: 39 :: 40 :: 41 :: 42 :: 43 :: 44 :: 45 :: 46 :: 47 :: 48 :: 49 :: 50 :: 51 :: 52 :: 53 :: 54 :: 55 :: 56 :: 57 :: 58 :: 59 :: 60 :: 61 :: 62 :: 63 :: 64 :: 65 :: 66 :: 67 :: 68 :: 69 :: 70 :: 0 :: []) (by decide) rfl
    refine lv_i2l hx hb dL_undo_6 rfl ?_
    refine kx_last hx hb hK hP hD hS 70 3 rfl rfl (by decide) (by decide) dL_undo_7 (fun H locs hP hD hS => ?_)
    have hP : va_P D vwCl ([(x 0, .inr (4, [.ref (v 0), .ref (b 0), .ref (o 0), .ref (h 0), .ref (t 0)]))] ++ (HW b cI (q (nk - 1)) ++ (SW v (b 0) cI (bI false) pe cn rk ++ (KWz h kb cI cH (nI (nk - 1)) (fun i => some (kb i 0)) (q 0) (q 1) (q 2) (q 3) (q 4) (q 5) ++ ([(r, .inl (cL, 1, .inr (.inl (vp_updL go 0 ((nI (nk - 1)).toInt64)))))]))))) H := hP
    have hD : va_D (kA w0) ([(x 0, .inr (4, [.ref (v 0), .ref (b 0), .ref (o 0), .ref (h 0), .ref (t 0)]))] ++ (HW b cI (q (nk - 1)) ++ (SW v (b 0) cI (bI false) pe cn rk ++ (KWz h kb cI cH (nI (nk - 1)) (fun i => some (kb i 0)) (q 0) (q 1) (q 2) (q 3) (q 4) (q 5) ++ ([(r, .inl (cL, 1, .inr (.inl (vp_updL go 0 ((nI (nk - 1)).toInt64)))))]))))) := hD
    refine lv_goto (tgt := 14) hx hb dL_undo_8 (by decide) ?_
    refine lv_iconst (v := nI 0) hx hb dL_undo_14 (by decide) ?_
    subst hw0
    exact kqw_0 hx hb hrt hlocks hT9 hP hD hS ⟨Nat.le_of_ble_eq_true rfl, Nat.le_of_ble_eq_true rfl⟩ dL_undo_15
set_option maxHeartbeats 4000000 in
set_option maxRecDepth 100000 in
theorem c_L_row (l : Launch) (hst : l.stackTraces = false) (D : va_G) (cI cC cH cL : ClassId) (y : Nat → Nat) (x b v u o h t : Nat → Nat) (z : ZZ) (lk : Bool) (pe cn rk : ZZ) (go : Nat → Int64) (ro : Int32) (wh : Int32) (r : Nat) (hw : WF z) (hws : WS z) (hv : VT z) (hL0 : lk = true → LKR z pe cn rk) : Met l yL_row wsL_row ({ frames := 8, cells := 2, slots := 12, locals := 137 }) (kwx y [.ref (x 0), .int ro, .int wh, .ref r] D ([(x 0, .inr (4, [.ref (v 0), .ref (b 0), .ref (o 0), .ref (h 0), .ref (t 0)]))] ++ (HW b cI z ++ (SW v (b 0) cI (bI lk) pe cn rk ++ ([(r, .inl (cL, 1, .inr (.inl go)))])))) (kT cI cC cH cL)) (kqw D ([(x 0, .inr (4, [.ref (v 0), .ref (b 0), .ref (o 0), .ref (h 0), .ref (t 0)]))] ++ (HW b cI z ++ (SW v (b 0) cI (bI lk) pe cn rk ++ ([(r, .inl (cL, 1, .inr (.inl go)))])))) (tRowW z ro wh) ([(x 0, .inr (4, [.ref (v 0), .ref (b 0), .ref (o 0), .ref (h 0), .ref (t 0)]))] ++ (HW b cI z ++ (SW v (b 0) cI (bI true) (lkP lk (people z) z pe) (lkP lk ((fun r s => colsW z r s (-1))) z cn) (lkP lk (rkN z) z rk) ++ ([(r, .inl (cL, 1, .inr (.inl (vp_updL go 0 (rowNowI z (cl ro) (cl wh)).toInt64))))])))) ([(x 0, .inr (4, [.ref (v 0), .ref (b 0), .ref (o 0), .ref (h 0), .ref (t 0)]))] ++ (HW b cI z ++ (SW v (b 0) cI (bI lk) pe cn rk ++ ([(r, .inl (cL, 1, .inr (.inl go)))]))))) 2 12 (kA ([(x 0, .inr (4, [.ref (v 0), .ref (b 0), .ref (o 0), .ref (h 0), .ref (t 0)]))] ++ (HW b cI z ++ (SW v (b 0) cI (bI lk) pe cn rk ++ ([(r, .inl (cL, 1, .inr (.inl go)))]))))) := by
  refine kx_ofWH (cc := cL_row) (maxL := 5) (ret := (some .int)) (by decide) rfl ?_
  intro p e s m args below meth c s₁ B hml htb hv
  obtain ⟨⟨rfl, hP, hK, hD0⟩, hX9, hF⟩ := hv
  have hx := B.exec
  have hb := B.bytes
  have hrt := B.returns
  have hts := atoms_spec (ws := wsL_row) B.pre
  have hown : s.vm.findClass RL = some m.cls := findClass_of_methodNamed B.named
  have hlocks := B.notSynchronized
  have hl := lv_entry ([.ref (x 0), .int ro, .int wh, .ref r]) (n := 5) (Nat.le_of_ble_eq_true rfl)
  rw [lg_entry_eq]
  generalize (lg_sl ([.ref (x 0), .int ro, .int wh, .ref r]) ++ List.replicate (5 - (lg_sl ([.ref (x 0), .int ro, .int wh, .ref r])).length) Slot.unset).toArray = ls at hl ⊢
  have hl : lv_has ls 5 [(0, .ref (x 0)), (1, .int ro), (2, .int wh), (3, .ref r)] := hl
  have hD := kA_self hD0
  obtain ⟨w0, hw0⟩ : ∃ w : va_W, w = [(x 0, .inr (4, [.ref (v 0), .ref (b 0), .ref (o 0), .ref (h 0), .ref (t 0)]))] ++ (HW b cI z ++ (SW v (b 0) cI (bI lk) pe cn rk ++ ([(r, .inl (cL, 1, .inr (.inl go)))]))) := ⟨_, rfl⟩
  have hD : va_D (kA w0) ([(x 0, .inr (4, [.ref (v 0), .ref (b 0), .ref (o 0), .ref (h 0), .ref (t 0)]))] ++ (HW b cI z ++ (SW v (b 0) cI (bI lk) pe cn rk ++ ([(r, .inl (cL, 1, .inr (.inl go)))])))) := by rw [hw0]; exact hD
  have hS : va_S (kA w0) s.heap s.heap [] := va_S.rf
  have hXx : hX y (kA w0) s s.heap := by rw [hw0]; exact hX9
  rw [show kA ([(x 0, .inr (4, [.ref (v 0), .ref (b 0), .ref (o 0), .ref (h 0), .ref (t 0)]))] ++ (HW b cI z ++ (SW v (b 0) cI (bI lk) pe cn rk ++ ([(r, .inl (cL, 1, .inr (.inl go)))])))) = kA w0 from by rw [hw0], show kqw D ([(x 0, .inr (4, [.ref (v 0), .ref (b 0), .ref (o 0), .ref (h 0), .ref (t 0)]))] ++ (HW b cI z ++ (SW v (b 0) cI (bI lk) pe cn rk ++ ([(r, .inl (cL, 1, .inr (.inl go)))])))) = kqw D w0 from by rw [hw0]]
  have hP : va_P D vwCl ([(x 0, .inr (4, [.ref (v 0), .ref (b 0), .ref (o 0), .ref (h 0), .ref (t 0)]))] ++ (HW b cI z ++ (SW v (b 0) cI (bI lk) pe cn rk ++ ([(r, .inl (cL, 1, .inr (.inl go)))])))) s.heap := hP
  refine lv_aload_n hx hb dL_row_0 rfl (lv_at hl 3 rfl) ?_
  refine lv_iconst (v := nI 0) hx hb dL_row_1 (by decide) ?_
  refine lv_aload_n hx hb dL_row_2 rfl (lv_at hl 0 rfl) ?_
  refine lv_iload_n hx hb dL_row_3 rfl (lv_at hl 1 rfl) ?_
  refine lv_iload_n hx hb dL_row_4 rfl (lv_at hl 2 rfl) ?_
  refine kxV (As := [.int ro, .int wh]) (rest := [.int (nI 0), .ref r]) (C := RX4) (own := RL) ⟨hx, hb, hml, hown, hts⟩ (c_X4_row l hst D cI cC cH cL y x b v u o h t z lk pe cn rk ro wh (by first | assumption | omega) (by first | assumption | omega) (by first | assumption | omega) (by first | assumption | omega)) (cwV 2 hts gL_row_X4_row rfl rfl rfl k_X4_row ⟨Nat.le_of_ble_eq_true rfl, Nat.le_of_ble_eq_true rfl⟩) hP hD hK hS hXx hF [0, 1, 2, 3, 4, 5, 6, 7, 8, 9, 10, 11, 12, 13] [14] rfl rfl (wr := ([(r, .inl (cL, 1, .inr (.inl go)))])) rfl (by decide) (by decide) (by decide) (va_recv (q := (RX4, TX4, 5)) hK hP (ci := 4) (q0 := 0) rfl rfl) rfl hl.1 rfl (Nat.le_of_ble_eq_true rfl) dL_row_5 ⟨Nat.le_of_ble_eq_true rfl, Nat.le_of_ble_eq_true rfl⟩ (fun E9 ce9 q9 H locs hE hP hD hS hq1 hq2 hq3 => ?_) (fun H locs hT9 hP hD hS => ?_)
  · have hP : va_P D vwCl ([(x 0, .inr (4, [.ref (v 0), .ref (b 0), .ref (o 0), .ref (h 0), .ref (t 0)]))] ++ (HW b cI z ++ (SW v (b 0) cI (bI lk) pe cn rk ++ ([(r, .inl (cL, 1, .inr (.inl go)))])))) H := hP.sub [1, 2, 3, 4, 5, 6, 7, 8, 9, 10, 11, 12, 13, 14, 0] rfl
    have hD : va_D (kA w0) ([(x 0, .inr (4, [.ref (v 0), .ref (b 0), .ref (o 0), .ref (h 0), .ref (t 0)]))] ++ (HW b cI z ++ (SW v (b 0) cI (bI lk) pe cn rk ++ ([(r, .inl (cL, 1, .inr (.inl go)))])))) := hD.sub [1, 2, 3, 4, 5, 6, 7, 8, 9, 10, 11, 12, 13, 14, 0] (by decide) rfl
    rcases hE with ⟨hT9, rfl⟩ | ⟨hT9, rfl⟩
    · refine vx_catch hown [] ⟨0, 10, 13, 21⟩ [⟨0, 10, 17, 13⟩] (htb.trans rfl) (fun z hz => absurd hz List.not_mem_nil) rfl (by decide) (hts (.classLink RL 21 "java/lang/IndexOutOfBoundsException") (List.mem_of_getElem? (i := 1) rfl)) (hF.at (w := .castable eIO eIO) (List.mem_of_getElem? (i := 5) rfl) rfl _) hq1 hq2 hq3 ?_
      refine lv_astore (lv' := [(4, .ref q9), (0, .ref (x 0)), (1, .int ro), (2, .int wh), (3, .ref r)]) hx hb dL_row_13 hl (by decide) rfl (fun ls hl => ?_)
      refine lv_iconst (v := nI 1) hx hb dL_row_15 (by decide) ?_
      subst hw0
      exact kqw_n hx hb hrt hlocks hT9 (by decide) hP hD hS ⟨Nat.le_of_ble_eq_true rfl, Nat.le_of_ble_eq_true rfl⟩ dL_row_16
    · refine vx_catch hown [⟨0, 10, 13, 21⟩] ⟨0, 10, 17, 13⟩ [] (htb.trans rfl) (fun z hz => by rcases List.mem_singleton.mp hz with rfl; exact Or.inr ⟨by decide, _, (hts (.classLink RL 21 "java/lang/IndexOutOfBoundsException") (List.mem_of_getElem? (i := 1) rfl)), hF.2.2.2.1⟩) rfl (by decide) (hts (.classLink RL 13 "java/lang/IllegalArgumentException") (List.mem_of_getElem? (i := 2) rfl)) (hF.at (w := .castable eIA eIA) (List.mem_of_getElem? (i := 3) rfl) rfl _) hq1 hq2 hq3 ?_
      refine lv_astore (lv' := [(4, .ref q9), (0, .ref (x 0)), (1, .int ro), (2, .int wh), (3, .ref r)]) hx hb dL_row_17 hl (by decide) rfl (fun ls hl => ?_)
      refine lv_iconst (v := nI 2) hx hb dL_row_19 (by decide) ?_
      subst hw0
      exact kqw_n hx hb hrt hlocks hT9 (by decide) hP hD hS ⟨Nat.le_of_ble_eq_true rfl, Nat.le_of_ble_eq_true rfl⟩ dL_row_20
  · have hP : va_P D vwCl ([(x 0, .inr (4, [.ref (v 0), .ref (b 0), .ref (o 0), .ref (h 0), .ref (t 0)]))] ++ (HW b cI z ++ (SW v (b 0) cI (bI true) (lkP lk (people z) z pe) (lkP lk ((fun r s => colsW z r s (-1))) z cn) (lkP lk (rkN z) z rk) ++ ([(r, .inl (cL, 1, .inr (.inl go)))])))) H := hP.sub [1, 2, 3, 4, 5, 6, 7, 8, 9, 10, 11, 12, 13, 14, 0] rfl
    have hD : va_D (kA w0) ([(x 0, .inr (4, [.ref (v 0), .ref (b 0), .ref (o 0), .ref (h 0), .ref (t 0)]))] ++ (HW b cI z ++ (SW v (b 0) cI (bI true) (lkP lk (people z) z pe) (lkP lk ((fun r s => colsW z r s (-1))) z cn) (lkP lk (rkN z) z rk) ++ ([(r, .inl (cL, 1, .inr (.inl go)))])))) := hD.sub [1, 2, 3, 4, 5, 6, 7, 8, 9, 10, 11, 12, 13, 14, 0] (by decide) rfl
    refine lv_i2l hx hb dL_row_8 rfl ?_
    refine kx_last hx hb hK hP hD hS 14 3 rfl rfl (by decide) (by decide) dL_row_9 (fun H locs hP hD hS => ?_)
    have hP : va_P D vwCl ([(x 0, .inr (4, [.ref (v 0), .ref (b 0), .ref (o 0), .ref (h 0), .ref (t 0)]))] ++ (HW b cI z ++ (SW v (b 0) cI (bI true) (lkP lk (people z) z pe) (lkP lk ((fun r s => colsW z r s (-1))) z cn) (lkP lk (rkN z) z rk) ++ ([(r, .inl (cL, 1, .inr (.inl (vp_updL go 0 ((rowNowI z (cl ro) (cl wh)).toInt64)))))])))) H := hP
    have hD : va_D (kA w0) ([(x 0, .inr (4, [.ref (v 0), .ref (b 0), .ref (o 0), .ref (h 0), .ref (t 0)]))] ++ (HW b cI z ++ (SW v (b 0) cI (bI true) (lkP lk (people z) z pe) (lkP lk ((fun r s => colsW z r s (-1))) z cn) (lkP lk (rkN z) z rk) ++ ([(r, .inl (cL, 1, .inr (.inl (vp_updL go 0 ((rowNowI z (cl ro) (cl wh)).toInt64)))))])))) := hD
    refine lv_goto (tgt := 21) hx hb dL_row_10 (by decide) ?_
    refine lv_iconst (v := nI 0) hx hb dL_row_21 (by decide) ?_
    subst hw0
    exact kqw_0 hx hb hrt hlocks hT9 hP hD hS ⟨Nat.le_of_ble_eq_true rfl, Nat.le_of_ble_eq_true rfl⟩ dL_row_22
set_option maxHeartbeats 4000000 in
set_option maxRecDepth 100000 in
theorem c_L_seat (l : Launch) (hst : l.stackTraces = false) (D : va_G) (cI cC cH cL : ClassId) (y : Nat → Nat) (x b v u o h t : Nat → Nat) (z : ZZ) (lk : Bool) (pe cn rk : ZZ) (go : Nat → Int64) (ro : Int32) (se : Int32) (wh : Int32) (r : Nat) (hw : WF z) (hws : WS z) (hv : VT z) (hL0 : lk = true → LKR z pe cn rk) : Met l yL_seat wsL_seat ({ frames := 9, cells := 3, slots := 18, locals := 148 }) (kwx y [.ref (x 0), .int ro, .int se, .int wh, .ref r] D ([(x 0, .inr (4, [.ref (v 0), .ref (b 0), .ref (o 0), .ref (h 0), .ref (t 0)]))] ++ (HW b cI z ++ (SW v (b 0) cI (bI lk) pe cn rk ++ ([(r, .inl (cL, 1, .inr (.inl go)))])))) (kT cI cC cH cL)) (kqw D ([(x 0, .inr (4, [.ref (v 0), .ref (b 0), .ref (o 0), .ref (h 0), .ref (t 0)]))] ++ (HW b cI z ++ (SW v (b 0) cI (bI lk) pe cn rk ++ ([(r, .inl (cL, 1, .inr (.inl go)))])))) (tSeatW z ro se wh) ([(x 0, .inr (4, [.ref (v 0), .ref (b 0), .ref (o 0), .ref (h 0), .ref (t 0)]))] ++ (HW b cI z ++ (SW v (b 0) cI (bI true) (lkP lk (people z) z pe) (lkP lk ((fun r s => colsW z r s (-1))) z cn) (lkP lk (rkN z) z rk) ++ ([(r, .inl (cL, 1, .inr (.inl (vp_updL go 0 (seatC z (cl ro) (cl se) (cl wh)).toInt64))))])))) ([(x 0, .inr (4, [.ref (v 0), .ref (b 0), .ref (o 0), .ref (h 0), .ref (t 0)]))] ++ (HW b cI z ++ (SW v (b 0) cI (bI lk) pe cn rk ++ ([(r, .inl (cL, 1, .inr (.inl go)))]))))) 3 18 (kA ([(x 0, .inr (4, [.ref (v 0), .ref (b 0), .ref (o 0), .ref (h 0), .ref (t 0)]))] ++ (HW b cI z ++ (SW v (b 0) cI (bI lk) pe cn rk ++ ([(r, .inl (cL, 1, .inr (.inl go)))]))))) := by
  refine kx_ofWH (cc := cL_seat) (maxL := 6) (ret := (some .int)) (by decide) rfl ?_
  intro p e s m args below meth c s₁ B hml htb hv
  obtain ⟨⟨rfl, hP, hK, hD0⟩, hX9, hF⟩ := hv
  have hx := B.exec
  have hb := B.bytes
  have hrt := B.returns
  have hts := atoms_spec (ws := wsL_seat) B.pre
  have hown : s.vm.findClass RL = some m.cls := findClass_of_methodNamed B.named
  have hlocks := B.notSynchronized
  have hl := lv_entry ([.ref (x 0), .int ro, .int se, .int wh, .ref r]) (n := 6) (Nat.le_of_ble_eq_true rfl)
  rw [lg_entry_eq]
  generalize (lg_sl ([.ref (x 0), .int ro, .int se, .int wh, .ref r]) ++ List.replicate (6 - (lg_sl ([.ref (x 0), .int ro, .int se, .int wh, .ref r])).length) Slot.unset).toArray = ls at hl ⊢
  have hl : lv_has ls 6 [(0, .ref (x 0)), (1, .int ro), (2, .int se), (3, .int wh), (4, .ref r)] := hl
  have hD := kA_self hD0
  obtain ⟨w0, hw0⟩ : ∃ w : va_W, w = [(x 0, .inr (4, [.ref (v 0), .ref (b 0), .ref (o 0), .ref (h 0), .ref (t 0)]))] ++ (HW b cI z ++ (SW v (b 0) cI (bI lk) pe cn rk ++ ([(r, .inl (cL, 1, .inr (.inl go)))]))) := ⟨_, rfl⟩
  have hD : va_D (kA w0) ([(x 0, .inr (4, [.ref (v 0), .ref (b 0), .ref (o 0), .ref (h 0), .ref (t 0)]))] ++ (HW b cI z ++ (SW v (b 0) cI (bI lk) pe cn rk ++ ([(r, .inl (cL, 1, .inr (.inl go)))])))) := by rw [hw0]; exact hD
  have hS : va_S (kA w0) s.heap s.heap [] := va_S.rf
  have hXx : hX y (kA w0) s s.heap := by rw [hw0]; exact hX9
  rw [show kA ([(x 0, .inr (4, [.ref (v 0), .ref (b 0), .ref (o 0), .ref (h 0), .ref (t 0)]))] ++ (HW b cI z ++ (SW v (b 0) cI (bI lk) pe cn rk ++ ([(r, .inl (cL, 1, .inr (.inl go)))])))) = kA w0 from by rw [hw0], show kqw D ([(x 0, .inr (4, [.ref (v 0), .ref (b 0), .ref (o 0), .ref (h 0), .ref (t 0)]))] ++ (HW b cI z ++ (SW v (b 0) cI (bI lk) pe cn rk ++ ([(r, .inl (cL, 1, .inr (.inl go)))])))) = kqw D w0 from by rw [hw0]]
  have hP : va_P D vwCl ([(x 0, .inr (4, [.ref (v 0), .ref (b 0), .ref (o 0), .ref (h 0), .ref (t 0)]))] ++ (HW b cI z ++ (SW v (b 0) cI (bI lk) pe cn rk ++ ([(r, .inl (cL, 1, .inr (.inl go)))])))) s.heap := hP
  refine lv_aload hx hb dL_seat_0 (lv_at hl 4 rfl) ?_
  refine lv_iconst (v := nI 0) hx hb dL_seat_2 (by decide) ?_
  refine lv_aload_n hx hb dL_seat_3 rfl (lv_at hl 0 rfl) ?_
  refine lv_iload_n hx hb dL_seat_4 rfl (lv_at hl 1 rfl) ?_
  refine lv_iload_n hx hb dL_seat_5 rfl (lv_at hl 2 rfl) ?_
  refine lv_iload_n hx hb dL_seat_6 rfl (lv_at hl 3 rfl) ?_
  refine kxV (As := [.int ro, .int se, .int wh]) (rest := [.int (nI 0), .ref r]) (C := RX4) (own := RL) ⟨hx, hb, hml, hown, hts⟩ (c_X4_seat l hst D cI cC cH cL y x b v u o h t z lk pe cn rk ro se wh (by first | assumption | omega) (by first | assumption | omega) (by first | assumption | omega) (by first | assumption | omega)) (cwV 3 hts gL_seat_X4_seat rfl rfl rfl k_X4_seat ⟨Nat.le_of_ble_eq_true rfl, Nat.le_of_ble_eq_true rfl⟩) hP hD hK hS hXx hF [0, 1, 2, 3, 4, 5, 6, 7, 8, 9, 10, 11, 12, 13] [14] rfl rfl (wr := ([(r, .inl (cL, 1, .inr (.inl go)))])) rfl (by decide) (by decide) (by decide) (va_recv (q := (RX4, TX4, 5)) hK hP (ci := 4) (q0 := 0) rfl rfl) rfl hl.1 rfl (Nat.le_of_ble_eq_true rfl) dL_seat_7 ⟨Nat.le_of_ble_eq_true rfl, Nat.le_of_ble_eq_true rfl⟩ (fun E9 ce9 q9 H locs hE hP hD hS hq1 hq2 hq3 => ?_) (fun H locs hT9 hP hD hS => ?_)
  · have hP : va_P D vwCl ([(x 0, .inr (4, [.ref (v 0), .ref (b 0), .ref (o 0), .ref (h 0), .ref (t 0)]))] ++ (HW b cI z ++ (SW v (b 0) cI (bI lk) pe cn rk ++ ([(r, .inl (cL, 1, .inr (.inl go)))])))) H := hP.sub [1, 2, 3, 4, 5, 6, 7, 8, 9, 10, 11, 12, 13, 14, 0] rfl
    have hD : va_D (kA w0) ([(x 0, .inr (4, [.ref (v 0), .ref (b 0), .ref (o 0), .ref (h 0), .ref (t 0)]))] ++ (HW b cI z ++ (SW v (b 0) cI (bI lk) pe cn rk ++ ([(r, .inl (cL, 1, .inr (.inl go)))])))) := hD.sub [1, 2, 3, 4, 5, 6, 7, 8, 9, 10, 11, 12, 13, 14, 0] (by decide) rfl
    rcases hE with ⟨hT9, rfl⟩ | ⟨hT9, rfl⟩
    · refine vx_catch hown [] ⟨0, 12, 15, 21⟩ [⟨0, 12, 19, 13⟩] (htb.trans rfl) (fun z hz => absurd hz List.not_mem_nil) rfl (by decide) (hts (.classLink RL 21 "java/lang/IndexOutOfBoundsException") (List.mem_of_getElem? (i := 1) rfl)) (hF.at (w := .castable eIO eIO) (List.mem_of_getElem? (i := 5) rfl) rfl _) hq1 hq2 hq3 ?_
      refine lv_astore (lv' := [(5, .ref q9), (0, .ref (x 0)), (1, .int ro), (2, .int se), (3, .int wh), (4, .ref r)]) hx hb dL_seat_15 hl (by decide) rfl (fun ls hl => ?_)
      refine lv_iconst (v := nI 1) hx hb dL_seat_17 (by decide) ?_
      subst hw0
      exact kqw_n hx hb hrt hlocks hT9 (by decide) hP hD hS ⟨Nat.le_of_ble_eq_true rfl, Nat.le_of_ble_eq_true rfl⟩ dL_seat_18
    · refine vx_catch hown [⟨0, 12, 15, 21⟩] ⟨0, 12, 19, 13⟩ [] (htb.trans rfl) (fun z hz => by rcases List.mem_singleton.mp hz with rfl; exact Or.inr ⟨by decide, _, (hts (.classLink RL 21 "java/lang/IndexOutOfBoundsException") (List.mem_of_getElem? (i := 1) rfl)), hF.2.2.2.1⟩) rfl (by decide) (hts (.classLink RL 13 "java/lang/IllegalArgumentException") (List.mem_of_getElem? (i := 2) rfl)) (hF.at (w := .castable eIA eIA) (List.mem_of_getElem? (i := 3) rfl) rfl _) hq1 hq2 hq3 ?_
      refine lv_astore (lv' := [(5, .ref q9), (0, .ref (x 0)), (1, .int ro), (2, .int se), (3, .int wh), (4, .ref r)]) hx hb dL_seat_19 hl (by decide) rfl (fun ls hl => ?_)
      refine lv_iconst (v := nI 2) hx hb dL_seat_21 (by decide) ?_
      subst hw0
      exact kqw_n hx hb hrt hlocks hT9 (by decide) hP hD hS ⟨Nat.le_of_ble_eq_true rfl, Nat.le_of_ble_eq_true rfl⟩ dL_seat_22
  · have hP : va_P D vwCl ([(x 0, .inr (4, [.ref (v 0), .ref (b 0), .ref (o 0), .ref (h 0), .ref (t 0)]))] ++ (HW b cI z ++ (SW v (b 0) cI (bI true) (lkP lk (people z) z pe) (lkP lk ((fun r s => colsW z r s (-1))) z cn) (lkP lk (rkN z) z rk) ++ ([(r, .inl (cL, 1, .inr (.inl go)))])))) H := hP.sub [1, 2, 3, 4, 5, 6, 7, 8, 9, 10, 11, 12, 13, 14, 0] rfl
    have hD : va_D (kA w0) ([(x 0, .inr (4, [.ref (v 0), .ref (b 0), .ref (o 0), .ref (h 0), .ref (t 0)]))] ++ (HW b cI z ++ (SW v (b 0) cI (bI true) (lkP lk (people z) z pe) (lkP lk ((fun r s => colsW z r s (-1))) z cn) (lkP lk (rkN z) z rk) ++ ([(r, .inl (cL, 1, .inr (.inl go)))])))) := hD.sub [1, 2, 3, 4, 5, 6, 7, 8, 9, 10, 11, 12, 13, 14, 0] (by decide) rfl
    refine lv_i2l hx hb dL_seat_10 rfl ?_
    refine kx_last hx hb hK hP hD hS 14 3 rfl rfl (by decide) (by decide) dL_seat_11 (fun H locs hP hD hS => ?_)
    have hP : va_P D vwCl ([(x 0, .inr (4, [.ref (v 0), .ref (b 0), .ref (o 0), .ref (h 0), .ref (t 0)]))] ++ (HW b cI z ++ (SW v (b 0) cI (bI true) (lkP lk (people z) z pe) (lkP lk ((fun r s => colsW z r s (-1))) z cn) (lkP lk (rkN z) z rk) ++ ([(r, .inl (cL, 1, .inr (.inl (vp_updL go 0 ((seatC z (cl ro) (cl se) (cl wh)).toInt64)))))])))) H := hP
    have hD : va_D (kA w0) ([(x 0, .inr (4, [.ref (v 0), .ref (b 0), .ref (o 0), .ref (h 0), .ref (t 0)]))] ++ (HW b cI z ++ (SW v (b 0) cI (bI true) (lkP lk (people z) z pe) (lkP lk ((fun r s => colsW z r s (-1))) z cn) (lkP lk (rkN z) z rk) ++ ([(r, .inl (cL, 1, .inr (.inl (vp_updL go 0 ((seatC z (cl ro) (cl se) (cl wh)).toInt64)))))])))) := hD
    refine lv_goto (tgt := 23) hx hb dL_seat_12 (by decide) ?_
    refine lv_iconst (v := nI 0) hx hb dL_seat_23 (by decide) ?_
    subst hw0
    exact kqw_0 hx hb hrt hlocks hT9 hP hD hS ⟨Nat.le_of_ble_eq_true rfl, Nat.le_of_ble_eq_true rfl⟩ dL_seat_24
set_option maxHeartbeats 4000000 in
set_option maxRecDepth 100000 in
theorem c_L_column (l : Launch) (hst : l.stackTraces = false) (D : va_G) (cI cC cH cL : ClassId) (y : Nat → Nat) (x b v u o h t : Nat → Nat) (z : ZZ) (go : Nat → Int64) (co : Int32) (wh : Int32) (r : Nat) (hw : WF z) : Met l yL_column wsL_column ({ frames := 8, cells := 2, slots := 12, locals := 134 }) (kwx y [.ref (x 0), .int co, .int wh, .ref r] D ([(x 0, .inr (4, [.ref (v 0), .ref (b 0), .ref (o 0), .ref (h 0), .ref (t 0)]))] ++ (HW b cI z ++ ([(r, .inl (cL, 1, .inr (.inl go)))]))) (kT cI cC cH cL)) (kqw D ([(x 0, .inr (4, [.ref (v 0), .ref (b 0), .ref (o 0), .ref (h 0), .ref (t 0)]))] ++ (HW b cI z ++ ([(r, .inl (cL, 1, .inr (.inl go)))]))) (tColW z co wh) ([(x 0, .inr (4, [.ref (v 0), .ref (b 0), .ref (o 0), .ref (h 0), .ref (t 0)]))] ++ (HW b cI z ++ ([(r, .inl (cL, 1, .inr (.inl (vp_updL go 0 (colNow z (cl co) (cl wh)).toInt64))))]))) ([(x 0, .inr (4, [.ref (v 0), .ref (b 0), .ref (o 0), .ref (h 0), .ref (t 0)]))] ++ (HW b cI z ++ ([(r, .inl (cL, 1, .inr (.inl go)))])))) 2 12 (kA ([(x 0, .inr (4, [.ref (v 0), .ref (b 0), .ref (o 0), .ref (h 0), .ref (t 0)]))] ++ (HW b cI z ++ ([(r, .inl (cL, 1, .inr (.inl go)))])))) := by
  refine kx_ofWH (cc := cL_column) (maxL := 5) (ret := (some .int)) (by decide) rfl ?_
  intro p e s m args below meth c s₁ B hml htb hv
  obtain ⟨⟨rfl, hP, hK, hD0⟩, hX9, hF⟩ := hv
  have hx := B.exec
  have hb := B.bytes
  have hrt := B.returns
  have hts := atoms_spec (ws := wsL_column) B.pre
  have hown : s.vm.findClass RL = some m.cls := findClass_of_methodNamed B.named
  have hlocks := B.notSynchronized
  have hl := lv_entry ([.ref (x 0), .int co, .int wh, .ref r]) (n := 5) (Nat.le_of_ble_eq_true rfl)
  rw [lg_entry_eq]
  generalize (lg_sl ([.ref (x 0), .int co, .int wh, .ref r]) ++ List.replicate (5 - (lg_sl ([.ref (x 0), .int co, .int wh, .ref r])).length) Slot.unset).toArray = ls at hl ⊢
  have hl : lv_has ls 5 [(0, .ref (x 0)), (1, .int co), (2, .int wh), (3, .ref r)] := hl
  have hD := kA_self hD0
  obtain ⟨w0, hw0⟩ : ∃ w : va_W, w = [(x 0, .inr (4, [.ref (v 0), .ref (b 0), .ref (o 0), .ref (h 0), .ref (t 0)]))] ++ (HW b cI z ++ ([(r, .inl (cL, 1, .inr (.inl go)))])) := ⟨_, rfl⟩
  have hD : va_D (kA w0) ([(x 0, .inr (4, [.ref (v 0), .ref (b 0), .ref (o 0), .ref (h 0), .ref (t 0)]))] ++ (HW b cI z ++ ([(r, .inl (cL, 1, .inr (.inl go)))]))) := by rw [hw0]; exact hD
  have hS : va_S (kA w0) s.heap s.heap [] := va_S.rf
  have hXx : hX y (kA w0) s s.heap := by rw [hw0]; exact hX9
  rw [show kA ([(x 0, .inr (4, [.ref (v 0), .ref (b 0), .ref (o 0), .ref (h 0), .ref (t 0)]))] ++ (HW b cI z ++ ([(r, .inl (cL, 1, .inr (.inl go)))]))) = kA w0 from by rw [hw0], show kqw D ([(x 0, .inr (4, [.ref (v 0), .ref (b 0), .ref (o 0), .ref (h 0), .ref (t 0)]))] ++ (HW b cI z ++ ([(r, .inl (cL, 1, .inr (.inl go)))]))) = kqw D w0 from by rw [hw0]]
  have hP : va_P D vwCl ([(x 0, .inr (4, [.ref (v 0), .ref (b 0), .ref (o 0), .ref (h 0), .ref (t 0)]))] ++ (HW b cI z ++ ([(r, .inl (cL, 1, .inr (.inl go)))]))) s.heap := hP
  refine lv_aload_n hx hb dL_column_0 rfl (lv_at hl 3 rfl) ?_
  refine lv_iconst (v := nI 0) hx hb dL_column_1 (by decide) ?_
  refine lv_aload_n hx hb dL_column_2 rfl (lv_at hl 0 rfl) ?_
  refine lv_iload_n hx hb dL_column_3 rfl (lv_at hl 1 rfl) ?_
  refine lv_iload_n hx hb dL_column_4 rfl (lv_at hl 2 rfl) ?_
  refine kxV (As := [.int co, .int wh]) (rest := [.int (nI 0), .ref r]) (C := RX4) (own := RL) ⟨hx, hb, hml, hown, hts⟩ (c_X4_column l hst D cI cC cH cL y x b v u o h t z co wh (by first | assumption | omega)) (cwV 2 hts gL_column_X4_column rfl rfl rfl k_X4_column ⟨Nat.le_of_ble_eq_true rfl, Nat.le_of_ble_eq_true rfl⟩) hP hD hK hS hXx hF [0, 1, 2, 3, 4, 5, 6, 7, 8, 9] [10] rfl rfl (wr := ([(r, .inl (cL, 1, .inr (.inl go)))])) rfl (by decide) (by decide) (by decide) (va_recv (q := (RX4, TX4, 5)) hK hP (ci := 4) (q0 := 0) rfl rfl) rfl hl.1 rfl (Nat.le_of_ble_eq_true rfl) dL_column_5 ⟨Nat.le_of_ble_eq_true rfl, Nat.le_of_ble_eq_true rfl⟩ (fun E9 ce9 q9 H locs hE hP hD hS hq1 hq2 hq3 => ?_) (fun H locs hT9 hP hD hS => ?_)
  · have hP : va_P D vwCl ([(x 0, .inr (4, [.ref (v 0), .ref (b 0), .ref (o 0), .ref (h 0), .ref (t 0)]))] ++ (HW b cI z ++ ([(r, .inl (cL, 1, .inr (.inl go)))]))) H := hP.sub [1, 2, 3, 4, 5, 6, 7, 8, 9, 10, 0] rfl
    have hD : va_D (kA w0) ([(x 0, .inr (4, [.ref (v 0), .ref (b 0), .ref (o 0), .ref (h 0), .ref (t 0)]))] ++ (HW b cI z ++ ([(r, .inl (cL, 1, .inr (.inl go)))]))) := hD.sub [1, 2, 3, 4, 5, 6, 7, 8, 9, 10, 0] (by decide) rfl
    rcases hE with ⟨hT9, rfl⟩ | ⟨hT9, rfl⟩
    · refine vx_catch hown [] ⟨0, 10, 13, 21⟩ [⟨0, 10, 17, 13⟩] (htb.trans rfl) (fun z hz => absurd hz List.not_mem_nil) rfl (by decide) (hts (.classLink RL 21 "java/lang/IndexOutOfBoundsException") (List.mem_of_getElem? (i := 1) rfl)) (hF.at (w := .castable eIO eIO) (List.mem_of_getElem? (i := 5) rfl) rfl _) hq1 hq2 hq3 ?_
      refine lv_astore (lv' := [(4, .ref q9), (0, .ref (x 0)), (1, .int co), (2, .int wh), (3, .ref r)]) hx hb dL_column_13 hl (by decide) rfl (fun ls hl => ?_)
      refine lv_iconst (v := nI 1) hx hb dL_column_15 (by decide) ?_
      subst hw0
      exact kqw_n hx hb hrt hlocks hT9 (by decide) hP hD hS ⟨Nat.le_of_ble_eq_true rfl, Nat.le_of_ble_eq_true rfl⟩ dL_column_16
    · refine vx_catch hown [⟨0, 10, 13, 21⟩] ⟨0, 10, 17, 13⟩ [] (htb.trans rfl) (fun z hz => by rcases List.mem_singleton.mp hz with rfl; exact Or.inr ⟨by decide, _, (hts (.classLink RL 21 "java/lang/IndexOutOfBoundsException") (List.mem_of_getElem? (i := 1) rfl)), hF.2.2.2.1⟩) rfl (by decide) (hts (.classLink RL 13 "java/lang/IllegalArgumentException") (List.mem_of_getElem? (i := 2) rfl)) (hF.at (w := .castable eIA eIA) (List.mem_of_getElem? (i := 3) rfl) rfl _) hq1 hq2 hq3 ?_
      refine lv_astore (lv' := [(4, .ref q9), (0, .ref (x 0)), (1, .int co), (2, .int wh), (3, .ref r)]) hx hb dL_column_17 hl (by decide) rfl (fun ls hl => ?_)
      refine lv_iconst (v := nI 2) hx hb dL_column_19 (by decide) ?_
      subst hw0
      exact kqw_n hx hb hrt hlocks hT9 (by decide) hP hD hS ⟨Nat.le_of_ble_eq_true rfl, Nat.le_of_ble_eq_true rfl⟩ dL_column_20
  · have hP : va_P D vwCl ([(x 0, .inr (4, [.ref (v 0), .ref (b 0), .ref (o 0), .ref (h 0), .ref (t 0)]))] ++ (HW b cI z ++ ([(r, .inl (cL, 1, .inr (.inl go)))]))) H := hP.sub [1, 2, 3, 4, 5, 6, 7, 8, 9, 10, 0] rfl
    have hD : va_D (kA w0) ([(x 0, .inr (4, [.ref (v 0), .ref (b 0), .ref (o 0), .ref (h 0), .ref (t 0)]))] ++ (HW b cI z ++ ([(r, .inl (cL, 1, .inr (.inl go)))]))) := hD.sub [1, 2, 3, 4, 5, 6, 7, 8, 9, 10, 0] (by decide) rfl
    refine lv_i2l hx hb dL_column_8 rfl ?_
    refine kx_last hx hb hK hP hD hS 10 3 rfl rfl (by decide) (by decide) dL_column_9 (fun H locs hP hD hS => ?_)
    have hP : va_P D vwCl ([(x 0, .inr (4, [.ref (v 0), .ref (b 0), .ref (o 0), .ref (h 0), .ref (t 0)]))] ++ (HW b cI z ++ ([(r, .inl (cL, 1, .inr (.inl (vp_updL go 0 ((colNow z (cl co) (cl wh)).toInt64)))))]))) H := hP
    have hD : va_D (kA w0) ([(x 0, .inr (4, [.ref (v 0), .ref (b 0), .ref (o 0), .ref (h 0), .ref (t 0)]))] ++ (HW b cI z ++ ([(r, .inl (cL, 1, .inr (.inl (vp_updL go 0 ((colNow z (cl co) (cl wh)).toInt64)))))]))) := hD
    refine lv_goto (tgt := 21) hx hb dL_column_10 (by decide) ?_
    refine lv_iconst (v := nI 0) hx hb dL_column_21 (by decide) ?_
    subst hw0
    exact kqw_0 hx hb hrt hlocks hT9 hP hD hS ⟨Nat.le_of_ble_eq_true rfl, Nat.le_of_ble_eq_true rfl⟩ dL_column_22
set_option maxHeartbeats 4000000 in
set_option maxRecDepth 100000 in
theorem c_L_best (l : Launch) (hst : l.stackTraces = false) (D : va_G) (cI cC cH cL : ClassId) (y : Nat → Nat) (x b v u o h t : Nat → Nat) (z : ZZ) (lk : Bool) (pe cn rk : ZZ) (go : Nat → Int64) (pl : Int32) (r : Nat) (hw : WF z) (hws : WS z) (hL0 : lk = true → LKR z pe cn rk) : Met l yL_best wsL_best ({ frames := 7, cells := 1, slots := 6, locals := 136 }) (kwx y [.ref (x 0), .int pl, .ref r] D ([(x 0, .inr (4, [.ref (v 0), .ref (b 0), .ref (o 0), .ref (h 0), .ref (t 0)]))] ++ (HW b cI z ++ (SW v (b 0) cI (bI lk) pe cn rk ++ ([(r, .inl (cL, 1, .inr (.inl go)))])))) (kT cI cC cH cL)) (kqw D ([(x 0, .inr (4, [.ref (v 0), .ref (b 0), .ref (o 0), .ref (h 0), .ref (t 0)]))] ++ (HW b cI z ++ (SW v (b 0) cI (bI lk) pe cn rk ++ ([(r, .inl (cL, 1, .inr (.inl go)))])))) (if (0 : Int32) ≤ pl then 0 else 1) ([(x 0, .inr (4, [.ref (v 0), .ref (b 0), .ref (o 0), .ref (h 0), .ref (t 0)]))] ++ (HW b cI z ++ (SW v (b 0) cI (bI true) (lkP lk (people z) z pe) (lkP lk ((fun r s => colsW z r s (-1))) z cn) (lkP lk (rkN z) z rk) ++ ([(r, .inl (cL, 1, .inr (.inl (vp_updL go 0 (bestW z pl).toInt64))))])))) ([(x 0, .inr (4, [.ref (v 0), .ref (b 0), .ref (o 0), .ref (h 0), .ref (t 0)]))] ++ (HW b cI z ++ (SW v (b 0) cI (bI lk) pe cn rk ++ ([(r, .inl (cL, 1, .inr (.inl go)))]))))) 1 6 (kA ([(x 0, .inr (4, [.ref (v 0), .ref (b 0), .ref (o 0), .ref (h 0), .ref (t 0)]))] ++ (HW b cI z ++ (SW v (b 0) cI (bI lk) pe cn rk ++ ([(r, .inl (cL, 1, .inr (.inl go)))]))))) := by
  refine kx_ofWH (cc := cL_best) (maxL := 4) (ret := (some .int)) (by decide) rfl ?_
  intro p e s m args below meth c s₁ B hml htb hv
  obtain ⟨⟨rfl, hP, hK, hD0⟩, hX9, hF⟩ := hv
  have hx := B.exec
  have hb := B.bytes
  have hrt := B.returns
  have hts := atoms_spec (ws := wsL_best) B.pre
  have hown : s.vm.findClass RL = some m.cls := findClass_of_methodNamed B.named
  have hlocks := B.notSynchronized
  have hl := lv_entry ([.ref (x 0), .int pl, .ref r]) (n := 4) (Nat.le_of_ble_eq_true rfl)
  rw [lg_entry_eq]
  generalize (lg_sl ([.ref (x 0), .int pl, .ref r]) ++ List.replicate (4 - (lg_sl ([.ref (x 0), .int pl, .ref r])).length) Slot.unset).toArray = ls at hl ⊢
  have hl : lv_has ls 4 [(0, .ref (x 0)), (1, .int pl), (2, .ref r)] := hl
  have hD := kA_self hD0
  obtain ⟨w0, hw0⟩ : ∃ w : va_W, w = [(x 0, .inr (4, [.ref (v 0), .ref (b 0), .ref (o 0), .ref (h 0), .ref (t 0)]))] ++ (HW b cI z ++ (SW v (b 0) cI (bI lk) pe cn rk ++ ([(r, .inl (cL, 1, .inr (.inl go)))]))) := ⟨_, rfl⟩
  have hD : va_D (kA w0) ([(x 0, .inr (4, [.ref (v 0), .ref (b 0), .ref (o 0), .ref (h 0), .ref (t 0)]))] ++ (HW b cI z ++ (SW v (b 0) cI (bI lk) pe cn rk ++ ([(r, .inl (cL, 1, .inr (.inl go)))])))) := by rw [hw0]; exact hD
  have hS : va_S (kA w0) s.heap s.heap [] := va_S.rf
  have hXx : hX y (kA w0) s s.heap := by rw [hw0]; exact hX9
  rw [show kA ([(x 0, .inr (4, [.ref (v 0), .ref (b 0), .ref (o 0), .ref (h 0), .ref (t 0)]))] ++ (HW b cI z ++ (SW v (b 0) cI (bI lk) pe cn rk ++ ([(r, .inl (cL, 1, .inr (.inl go)))])))) = kA w0 from by rw [hw0], show kqw D ([(x 0, .inr (4, [.ref (v 0), .ref (b 0), .ref (o 0), .ref (h 0), .ref (t 0)]))] ++ (HW b cI z ++ (SW v (b 0) cI (bI lk) pe cn rk ++ ([(r, .inl (cL, 1, .inr (.inl go)))])))) = kqw D w0 from by rw [hw0]]
  have hP : va_P D vwCl ([(x 0, .inr (4, [.ref (v 0), .ref (b 0), .ref (o 0), .ref (h 0), .ref (t 0)]))] ++ (HW b cI z ++ (SW v (b 0) cI (bI lk) pe cn rk ++ ([(r, .inl (cL, 1, .inr (.inl go)))])))) s.heap := hP
  refine lv_aload_n hx hb dL_best_0 rfl (lv_at hl 2 rfl) ?_
  refine lv_iconst (v := nI 0) hx hb dL_best_1 (by decide) ?_
  refine lv_aload_n hx hb dL_best_2 rfl (lv_at hl 0 rfl) ?_
  refine lv_iload_n hx hb dL_best_3 rfl (lv_at hl 1 rfl) ?_
  refine kxV (As := [.int pl]) (rest := [.int (nI 0), .ref r]) (C := RX4) (own := RL) ⟨hx, hb, hml, hown, hts⟩ (c_X4_best l hst D cI cC cH cL y x b v u o h t z lk pe cn rk pl (by first | assumption | omega) (by first | assumption | omega) (by first | assumption | omega)) (cwV 1 hts gL_best_X4_best rfl rfl rfl k_X4_best ⟨Nat.le_of_ble_eq_true rfl, Nat.le_of_ble_eq_true rfl⟩) hP hD hK hS hXx hF [0, 1, 2, 3, 4, 5, 6, 7, 8, 9, 10, 11, 12, 13] [14] rfl rfl (wr := ([(r, .inl (cL, 1, .inr (.inl go)))])) rfl (by decide) (by decide) (by decide) (va_recv (q := (RX4, TX4, 5)) hK hP (ci := 4) (q0 := 0) rfl rfl) rfl hl.1 rfl (Nat.le_of_ble_eq_true rfl) dL_best_4 ⟨Nat.le_of_ble_eq_true rfl, Nat.le_of_ble_eq_true rfl⟩ (fun E9 ce9 q9 H locs hE hP hD hS hq1 hq2 hq3 => ?_) (fun H locs hT9 hP hD hS => ?_)
  · have hP : va_P D vwCl ([(x 0, .inr (4, [.ref (v 0), .ref (b 0), .ref (o 0), .ref (h 0), .ref (t 0)]))] ++ (HW b cI z ++ (SW v (b 0) cI (bI lk) pe cn rk ++ ([(r, .inl (cL, 1, .inr (.inl go)))])))) H := hP.sub [1, 2, 3, 4, 5, 6, 7, 8, 9, 10, 11, 12, 13, 14, 0] rfl
    have hD : va_D (kA w0) ([(x 0, .inr (4, [.ref (v 0), .ref (b 0), .ref (o 0), .ref (h 0), .ref (t 0)]))] ++ (HW b cI z ++ (SW v (b 0) cI (bI lk) pe cn rk ++ ([(r, .inl (cL, 1, .inr (.inl go)))])))) := hD.sub [1, 2, 3, 4, 5, 6, 7, 8, 9, 10, 11, 12, 13, 14, 0] (by decide) rfl
    rcases hE with ⟨hT9, rfl⟩ | ⟨hT9, rfl⟩
    · refine vx_catch hown [] ⟨0, 9, 12, 13⟩ [] (htb.trans rfl) (fun z hz => absurd hz List.not_mem_nil) rfl (by decide) (hts (.classLink RL 13 "java/lang/IllegalArgumentException") (List.mem_of_getElem? (i := 1) rfl)) (hF.at (w := .castable eIA eIA) (List.mem_of_getElem? (i := 3) rfl) rfl _) hq1 hq2 hq3 ?_
      refine lv_astore_n (lv' := [(3, .ref q9), (0, .ref (x 0)), (1, .int pl), (2, .ref r)]) hx hb dL_best_12 rfl hl (by decide) rfl (fun ls hl => ?_)
      refine lv_iconst (v := nI 1) hx hb dL_best_13 (by decide) ?_
      subst hw0
      exact kqw_n hx hb hrt hlocks hT9 (by decide) hP hD hS ⟨Nat.le_of_ble_eq_true rfl, Nat.le_of_ble_eq_true rfl⟩ dL_best_14
    · exact absurd hT9 (by split <;> omega)
  · have hP : va_P D vwCl ([(x 0, .inr (4, [.ref (v 0), .ref (b 0), .ref (o 0), .ref (h 0), .ref (t 0)]))] ++ (HW b cI z ++ (SW v (b 0) cI (bI true) (lkP lk (people z) z pe) (lkP lk ((fun r s => colsW z r s (-1))) z cn) (lkP lk (rkN z) z rk) ++ ([(r, .inl (cL, 1, .inr (.inl go)))])))) H := hP.sub [1, 2, 3, 4, 5, 6, 7, 8, 9, 10, 11, 12, 13, 14, 0] rfl
    have hD : va_D (kA w0) ([(x 0, .inr (4, [.ref (v 0), .ref (b 0), .ref (o 0), .ref (h 0), .ref (t 0)]))] ++ (HW b cI z ++ (SW v (b 0) cI (bI true) (lkP lk (people z) z pe) (lkP lk ((fun r s => colsW z r s (-1))) z cn) (lkP lk (rkN z) z rk) ++ ([(r, .inl (cL, 1, .inr (.inl go)))])))) := hD.sub [1, 2, 3, 4, 5, 6, 7, 8, 9, 10, 11, 12, 13, 14, 0] (by decide) rfl
    refine lv_i2l hx hb dL_best_7 rfl ?_
    refine kx_last hx hb hK hP hD hS 14 3 rfl rfl (by decide) (by decide) dL_best_8 (fun H locs hP hD hS => ?_)
    have hP : va_P D vwCl ([(x 0, .inr (4, [.ref (v 0), .ref (b 0), .ref (o 0), .ref (h 0), .ref (t 0)]))] ++ (HW b cI z ++ (SW v (b 0) cI (bI true) (lkP lk (people z) z pe) (lkP lk ((fun r s => colsW z r s (-1))) z cn) (lkP lk (rkN z) z rk) ++ ([(r, .inl (cL, 1, .inr (.inl (vp_updL go 0 ((bestW z pl).toInt64)))))])))) H := hP
    have hD : va_D (kA w0) ([(x 0, .inr (4, [.ref (v 0), .ref (b 0), .ref (o 0), .ref (h 0), .ref (t 0)]))] ++ (HW b cI z ++ (SW v (b 0) cI (bI true) (lkP lk (people z) z pe) (lkP lk ((fun r s => colsW z r s (-1))) z cn) (lkP lk (rkN z) z rk) ++ ([(r, .inl (cL, 1, .inr (.inl (vp_updL go 0 ((bestW z pl).toInt64)))))])))) := hD
    refine lv_goto (tgt := 15) hx hb dL_best_9 (by decide) ?_
    refine lv_iconst (v := nI 0) hx hb dL_best_15 (by decide) ?_
    subst hw0
    exact kqw_0 hx hb hrt hlocks hT9 hP hD hS ⟨Nat.le_of_ble_eq_true rfl, Nat.le_of_ble_eq_true rfl⟩ dL_best_16
set_option maxHeartbeats 4000000 in
set_option maxRecDepth 100000 in
theorem c_L_whoBlocks (l : Launch) (hst : l.stackTraces = false) (D : va_G) (cI cC cH cL : ClassId) (y : Nat → Nat) (x b v u o h t : Nat → Nat) (z : ZZ) (go : Nat → Int64) (ro : Int32) (se : Int32) (r : Nat) (hw : WF z) (hws : WS z) : Met l yL_whoBlocks wsL_whoBlocks ({ frames := 9, cells := 2, slots := 12, locals := 147 }) (kwx y [.ref (x 0), .int ro, .int se, .ref r] D ([(x 0, .inr (4, [.ref (v 0), .ref (b 0), .ref (o 0), .ref (h 0), .ref (t 0)]))] ++ (HW b cI z ++ ([(r, .inl (cL, 1, .inr (.inl go)))]))) (kT cI cC cH cL)) (kqw D ([(x 0, .inr (4, [.ref (v 0), .ref (b 0), .ref (o 0), .ref (h 0), .ref (t 0)]))] ++ (HW b cI z ++ ([(r, .inl (cL, 1, .inr (.inl go)))]))) (tSeat z ro se) ([(x 0, .inr (4, [.ref (v 0), .ref (b 0), .ref (o 0), .ref (h 0), .ref (t 0)]))] ++ (HW b cI z ++ ([(r, .inl (cL, 1, .inr (.inl (vp_updL go 0 (blockerI z (cl ro) (cl se)).toInt64))))]))) ([(x 0, .inr (4, [.ref (v 0), .ref (b 0), .ref (o 0), .ref (h 0), .ref (t 0)]))] ++ (HW b cI z ++ ([(r, .inl (cL, 1, .inr (.inl go)))])))) 2 12 (kA ([(x 0, .inr (4, [.ref (v 0), .ref (b 0), .ref (o 0), .ref (h 0), .ref (t 0)]))] ++ (HW b cI z ++ ([(r, .inl (cL, 1, .inr (.inl go)))])))) := by
  refine kx_ofWH (cc := cL_whoBlocks) (maxL := 5) (ret := (some .int)) (by decide) rfl ?_
  intro p e s m args below meth c s₁ B hml htb hv
  obtain ⟨⟨rfl, hP, hK, hD0⟩, hX9, hF⟩ := hv
  have hx := B.exec
  have hb := B.bytes
  have hrt := B.returns
  have hts := atoms_spec (ws := wsL_whoBlocks) B.pre
  have hown : s.vm.findClass RL = some m.cls := findClass_of_methodNamed B.named
  have hlocks := B.notSynchronized
  have hl := lv_entry ([.ref (x 0), .int ro, .int se, .ref r]) (n := 5) (Nat.le_of_ble_eq_true rfl)
  rw [lg_entry_eq]
  generalize (lg_sl ([.ref (x 0), .int ro, .int se, .ref r]) ++ List.replicate (5 - (lg_sl ([.ref (x 0), .int ro, .int se, .ref r])).length) Slot.unset).toArray = ls at hl ⊢
  have hl : lv_has ls 5 [(0, .ref (x 0)), (1, .int ro), (2, .int se), (3, .ref r)] := hl
  have hD := kA_self hD0
  obtain ⟨w0, hw0⟩ : ∃ w : va_W, w = [(x 0, .inr (4, [.ref (v 0), .ref (b 0), .ref (o 0), .ref (h 0), .ref (t 0)]))] ++ (HW b cI z ++ ([(r, .inl (cL, 1, .inr (.inl go)))])) := ⟨_, rfl⟩
  have hD : va_D (kA w0) ([(x 0, .inr (4, [.ref (v 0), .ref (b 0), .ref (o 0), .ref (h 0), .ref (t 0)]))] ++ (HW b cI z ++ ([(r, .inl (cL, 1, .inr (.inl go)))]))) := by rw [hw0]; exact hD
  have hS : va_S (kA w0) s.heap s.heap [] := va_S.rf
  have hXx : hX y (kA w0) s s.heap := by rw [hw0]; exact hX9
  rw [show kA ([(x 0, .inr (4, [.ref (v 0), .ref (b 0), .ref (o 0), .ref (h 0), .ref (t 0)]))] ++ (HW b cI z ++ ([(r, .inl (cL, 1, .inr (.inl go)))]))) = kA w0 from by rw [hw0], show kqw D ([(x 0, .inr (4, [.ref (v 0), .ref (b 0), .ref (o 0), .ref (h 0), .ref (t 0)]))] ++ (HW b cI z ++ ([(r, .inl (cL, 1, .inr (.inl go)))]))) = kqw D w0 from by rw [hw0]]
  have hP : va_P D vwCl ([(x 0, .inr (4, [.ref (v 0), .ref (b 0), .ref (o 0), .ref (h 0), .ref (t 0)]))] ++ (HW b cI z ++ ([(r, .inl (cL, 1, .inr (.inl go)))]))) s.heap := hP
  refine lv_aload_n hx hb dL_whoBlocks_0 rfl (lv_at hl 3 rfl) ?_
  refine lv_iconst (v := nI 0) hx hb dL_whoBlocks_1 (by decide) ?_
  refine lv_aload_n hx hb dL_whoBlocks_2 rfl (lv_at hl 0 rfl) ?_
  refine lv_iload_n hx hb dL_whoBlocks_3 rfl (lv_at hl 1 rfl) ?_
  refine lv_iload_n hx hb dL_whoBlocks_4 rfl (lv_at hl 2 rfl) ?_
  refine kxV (As := [.int ro, .int se]) (rest := [.int (nI 0), .ref r]) (C := RX4) (own := RL) ⟨hx, hb, hml, hown, hts⟩ (c_X4_whoBlocks l hst D cI cC cH cL y x b v u o h t z ro se (by first | assumption | omega) (by first | assumption | omega)) (cwV 2 hts gL_whoBlocks_X4_whoBlocks rfl rfl rfl k_X4_whoBlocks ⟨Nat.le_of_ble_eq_true rfl, Nat.le_of_ble_eq_true rfl⟩) hP hD hK hS hXx hF [0, 1, 2, 3, 4, 5, 6, 7, 8, 9] [10] rfl rfl (wr := ([(r, .inl (cL, 1, .inr (.inl go)))])) rfl (by decide) (by decide) (by decide) (va_recv (q := (RX4, TX4, 5)) hK hP (ci := 4) (q0 := 0) rfl rfl) rfl hl.1 rfl (Nat.le_of_ble_eq_true rfl) dL_whoBlocks_5 ⟨Nat.le_of_ble_eq_true rfl, Nat.le_of_ble_eq_true rfl⟩ (fun E9 ce9 q9 H locs hE hP hD hS hq1 hq2 hq3 => ?_) (fun H locs hT9 hP hD hS => ?_)
  · have hP : va_P D vwCl ([(x 0, .inr (4, [.ref (v 0), .ref (b 0), .ref (o 0), .ref (h 0), .ref (t 0)]))] ++ (HW b cI z ++ ([(r, .inl (cL, 1, .inr (.inl go)))]))) H := hP.sub [1, 2, 3, 4, 5, 6, 7, 8, 9, 10, 0] rfl
    have hD : va_D (kA w0) ([(x 0, .inr (4, [.ref (v 0), .ref (b 0), .ref (o 0), .ref (h 0), .ref (t 0)]))] ++ (HW b cI z ++ ([(r, .inl (cL, 1, .inr (.inl go)))]))) := hD.sub [1, 2, 3, 4, 5, 6, 7, 8, 9, 10, 0] (by decide) rfl
    rcases hE with ⟨hT9, rfl⟩ | ⟨hT9, rfl⟩
    · refine vx_catch hown [] ⟨0, 10, 13, 21⟩ [] (htb.trans rfl) (fun z hz => absurd hz List.not_mem_nil) rfl (by decide) (hts (.classLink RL 21 "java/lang/IndexOutOfBoundsException") (List.mem_of_getElem? (i := 1) rfl)) (hF.at (w := .castable eIO eIO) (List.mem_of_getElem? (i := 5) rfl) rfl _) hq1 hq2 hq3 ?_
      refine lv_astore (lv' := [(4, .ref q9), (0, .ref (x 0)), (1, .int ro), (2, .int se), (3, .ref r)]) hx hb dL_whoBlocks_13 hl (by decide) rfl (fun ls hl => ?_)
      refine lv_iconst (v := nI 1) hx hb dL_whoBlocks_15 (by decide) ?_
      subst hw0
      exact kqw_n hx hb hrt hlocks hT9 (by decide) hP hD hS ⟨Nat.le_of_ble_eq_true rfl, Nat.le_of_ble_eq_true rfl⟩ dL_whoBlocks_16
    · exact absurd hT9 (by unfold tSeat; split <;> omega)
  · have hP : va_P D vwCl ([(x 0, .inr (4, [.ref (v 0), .ref (b 0), .ref (o 0), .ref (h 0), .ref (t 0)]))] ++ (HW b cI z ++ ([(r, .inl (cL, 1, .inr (.inl go)))]))) H := hP.sub [1, 2, 3, 4, 5, 6, 7, 8, 9, 10, 0] rfl
    have hD : va_D (kA w0) ([(x 0, .inr (4, [.ref (v 0), .ref (b 0), .ref (o 0), .ref (h 0), .ref (t 0)]))] ++ (HW b cI z ++ ([(r, .inl (cL, 1, .inr (.inl go)))]))) := hD.sub [1, 2, 3, 4, 5, 6, 7, 8, 9, 10, 0] (by decide) rfl
    refine lv_i2l hx hb dL_whoBlocks_8 rfl ?_
    refine kx_last hx hb hK hP hD hS 10 3 rfl rfl (by decide) (by decide) dL_whoBlocks_9 (fun H locs hP hD hS => ?_)
    have hP : va_P D vwCl ([(x 0, .inr (4, [.ref (v 0), .ref (b 0), .ref (o 0), .ref (h 0), .ref (t 0)]))] ++ (HW b cI z ++ ([(r, .inl (cL, 1, .inr (.inl (vp_updL go 0 ((blockerI z (cl ro) (cl se)).toInt64)))))]))) H := hP
    have hD : va_D (kA w0) ([(x 0, .inr (4, [.ref (v 0), .ref (b 0), .ref (o 0), .ref (h 0), .ref (t 0)]))] ++ (HW b cI z ++ ([(r, .inl (cL, 1, .inr (.inl (vp_updL go 0 ((blockerI z (cl ro) (cl se)).toInt64)))))]))) := hD
    refine lv_goto (tgt := 17) hx hb dL_whoBlocks_10 (by decide) ?_
    refine lv_iconst (v := nI 0) hx hb dL_whoBlocks_17 (by decide) ?_
    subst hw0
    exact kqw_0 hx hb hrt hlocks hT9 hP hD hS ⟨Nat.le_of_ble_eq_true rfl, Nat.le_of_ble_eq_true rfl⟩ dL_whoBlocks_18
set_option maxHeartbeats 4000000 in
set_option maxRecDepth 100000 in
theorem c_L_count (l : Launch) (hst : l.stackTraces = false) (D : va_G) (cI cC cH cL : ClassId) (y : Nat → Nat) (x b v u o h t : Nat → Nat) (z : ZZ) (lk : Bool) (pe cn rk : ZZ) (nk : Nat) (go : Nat → Int64) (wh : Int32) (r : Nat) (hw : WF z) (hws : WS z) (hv : VT z) (hL0 : lk = true → LKR z pe cn rk) : Met l yL_count wsL_count ({ frames := 8, cells := 1, slots := 6, locals := 153 }) (kwx y [.ref (x 0), .int wh, .ref r] D ([(x 0, .inr (4, [.ref (v 0), .ref (b 0), .ref (o 0), .ref (h 0), .ref (t 0)]))] ++ (HW b cI z ++ (SW v (b 0) cI (bI lk) pe cn rk ++ ([(h 0, .inr (1, [.ref (h 1), .int (nI nk)]))] ++ ([(r, .inl (cL, 1, .inr (.inl go)))]))))) (kT cI cC cH cL)) (kqw D ([(x 0, .inr (4, [.ref (v 0), .ref (b 0), .ref (o 0), .ref (h 0), .ref (t 0)]))] ++ (HW b cI z ++ (SW v (b 0) cI (bI lk) pe cn rk ++ ([(h 0, .inr (1, [.ref (h 1), .int (nI nk)]))] ++ ([(r, .inl (cL, 1, .inr (.inl go)))]))))) (if wthn wh (nI 0) (nI 8) = true then 0 else 1) ([(x 0, .inr (4, [.ref (v 0), .ref (b 0), .ref (o 0), .ref (h 0), .ref (t 0)]))] ++ (HW b cI z ++ (SW v (b 0) cI (bI true) (lkP lk (people z) z pe) (lkP lk ((fun r s => colsW z r s (-1))) z cn) (lkP lk (rkN z) z rk) ++ ([(h 0, .inr (1, [.ref (h 1), .int (nI nk)]))] ++ ([(r, .inl (cL, 1, .inr (.inl (vp_updL go 0 (countI z nk (cl wh)).toInt64))))]))))) ([(x 0, .inr (4, [.ref (v 0), .ref (b 0), .ref (o 0), .ref (h 0), .ref (t 0)]))] ++ (HW b cI z ++ (SW v (b 0) cI (bI lk) pe cn rk ++ ([(h 0, .inr (1, [.ref (h 1), .int (nI nk)]))] ++ ([(r, .inl (cL, 1, .inr (.inl go)))])))))) 1 6 (kA ([(x 0, .inr (4, [.ref (v 0), .ref (b 0), .ref (o 0), .ref (h 0), .ref (t 0)]))] ++ (HW b cI z ++ (SW v (b 0) cI (bI lk) pe cn rk ++ ([(h 0, .inr (1, [.ref (h 1), .int (nI nk)]))] ++ ([(r, .inl (cL, 1, .inr (.inl go)))])))))) := by
  refine kx_ofWH (cc := cL_count) (maxL := 4) (ret := (some .int)) (by decide) rfl ?_
  intro p e s m args below meth c s₁ B hml htb hv
  obtain ⟨⟨rfl, hP, hK, hD0⟩, hX9, hF⟩ := hv
  have hx := B.exec
  have hb := B.bytes
  have hrt := B.returns
  have hts := atoms_spec (ws := wsL_count) B.pre
  have hown : s.vm.findClass RL = some m.cls := findClass_of_methodNamed B.named
  have hlocks := B.notSynchronized
  have hl := lv_entry ([.ref (x 0), .int wh, .ref r]) (n := 4) (Nat.le_of_ble_eq_true rfl)
  rw [lg_entry_eq]
  generalize (lg_sl ([.ref (x 0), .int wh, .ref r]) ++ List.replicate (4 - (lg_sl ([.ref (x 0), .int wh, .ref r])).length) Slot.unset).toArray = ls at hl ⊢
  have hl : lv_has ls 4 [(0, .ref (x 0)), (1, .int wh), (2, .ref r)] := hl
  have hD := kA_self hD0
  obtain ⟨w0, hw0⟩ : ∃ w : va_W, w = [(x 0, .inr (4, [.ref (v 0), .ref (b 0), .ref (o 0), .ref (h 0), .ref (t 0)]))] ++ (HW b cI z ++ (SW v (b 0) cI (bI lk) pe cn rk ++ ([(h 0, .inr (1, [.ref (h 1), .int (nI nk)]))] ++ ([(r, .inl (cL, 1, .inr (.inl go)))])))) := ⟨_, rfl⟩
  have hD : va_D (kA w0) ([(x 0, .inr (4, [.ref (v 0), .ref (b 0), .ref (o 0), .ref (h 0), .ref (t 0)]))] ++ (HW b cI z ++ (SW v (b 0) cI (bI lk) pe cn rk ++ ([(h 0, .inr (1, [.ref (h 1), .int (nI nk)]))] ++ ([(r, .inl (cL, 1, .inr (.inl go)))]))))) := by rw [hw0]; exact hD
  have hS : va_S (kA w0) s.heap s.heap [] := va_S.rf
  have hXx : hX y (kA w0) s s.heap := by rw [hw0]; exact hX9
  rw [show kA ([(x 0, .inr (4, [.ref (v 0), .ref (b 0), .ref (o 0), .ref (h 0), .ref (t 0)]))] ++ (HW b cI z ++ (SW v (b 0) cI (bI lk) pe cn rk ++ ([(h 0, .inr (1, [.ref (h 1), .int (nI nk)]))] ++ ([(r, .inl (cL, 1, .inr (.inl go)))]))))) = kA w0 from by rw [hw0], show kqw D ([(x 0, .inr (4, [.ref (v 0), .ref (b 0), .ref (o 0), .ref (h 0), .ref (t 0)]))] ++ (HW b cI z ++ (SW v (b 0) cI (bI lk) pe cn rk ++ ([(h 0, .inr (1, [.ref (h 1), .int (nI nk)]))] ++ ([(r, .inl (cL, 1, .inr (.inl go)))]))))) = kqw D w0 from by rw [hw0]]
  have hP : va_P D vwCl ([(x 0, .inr (4, [.ref (v 0), .ref (b 0), .ref (o 0), .ref (h 0), .ref (t 0)]))] ++ (HW b cI z ++ (SW v (b 0) cI (bI lk) pe cn rk ++ ([(h 0, .inr (1, [.ref (h 1), .int (nI nk)]))] ++ ([(r, .inl (cL, 1, .inr (.inl go)))]))))) s.heap := hP
  refine lv_aload_n hx hb dL_count_0 rfl (lv_at hl 2 rfl) ?_
  refine lv_iconst (v := nI 0) hx hb dL_count_1 (by decide) ?_
  refine lv_aload_n hx hb dL_count_2 rfl (lv_at hl 0 rfl) ?_
  refine lv_iload_n hx hb dL_count_3 rfl (lv_at hl 1 rfl) ?_
  refine kxV (As := [.int wh]) (rest := [.int (nI 0), .ref r]) (C := RX4) (own := RL) ⟨hx, hb, hml, hown, hts⟩ (c_X4_count l hst D cI cC cH cL y x b v u o h t z lk pe cn rk nk wh (by first | assumption | omega) (by first | assumption | omega) (by first | assumption | omega) (by first | assumption | omega)) (cwV 1 hts gL_count_X4_count rfl rfl rfl k_X4_count ⟨Nat.le_of_ble_eq_true rfl, Nat.le_of_ble_eq_true rfl⟩) hP hD hK hS hXx hF [0, 1, 2, 3, 4, 5, 6, 7, 8, 9, 10, 11, 12, 13, 14] [15] rfl rfl (wr := ([(r, .inl (cL, 1, .inr (.inl go)))])) rfl (by decide) (by decide) (by decide) (va_recv (q := (RX4, TX4, 5)) hK hP (ci := 4) (q0 := 0) rfl rfl) rfl hl.1 rfl (Nat.le_of_ble_eq_true rfl) dL_count_4 ⟨Nat.le_of_ble_eq_true rfl, Nat.le_of_ble_eq_true rfl⟩ (fun E9 ce9 q9 H locs hE hP hD hS hq1 hq2 hq3 => ?_) (fun H locs hT9 hP hD hS => ?_)
  · have hP : va_P D vwCl ([(x 0, .inr (4, [.ref (v 0), .ref (b 0), .ref (o 0), .ref (h 0), .ref (t 0)]))] ++ (HW b cI z ++ (SW v (b 0) cI (bI lk) pe cn rk ++ ([(h 0, .inr (1, [.ref (h 1), .int (nI nk)]))] ++ ([(r, .inl (cL, 1, .inr (.inl go)))]))))) H := hP.sub [1, 2, 3, 4, 5, 6, 7, 8, 9, 10, 11, 12, 13, 14, 15, 0] rfl
    have hD : va_D (kA w0) ([(x 0, .inr (4, [.ref (v 0), .ref (b 0), .ref (o 0), .ref (h 0), .ref (t 0)]))] ++ (HW b cI z ++ (SW v (b 0) cI (bI lk) pe cn rk ++ ([(h 0, .inr (1, [.ref (h 1), .int (nI nk)]))] ++ ([(r, .inl (cL, 1, .inr (.inl go)))]))))) := hD.sub [1, 2, 3, 4, 5, 6, 7, 8, 9, 10, 11, 12, 13, 14, 15, 0] (by decide) rfl
    rcases hE with ⟨hT9, rfl⟩ | ⟨hT9, rfl⟩
    · refine vx_catch hown [] ⟨0, 9, 12, 13⟩ [] (htb.trans rfl) (fun z hz => absurd hz List.not_mem_nil) rfl (by decide) (hts (.classLink RL 13 "java/lang/IllegalArgumentException") (List.mem_of_getElem? (i := 1) rfl)) (hF.at (w := .castable eIA eIA) (List.mem_of_getElem? (i := 3) rfl) rfl _) hq1 hq2 hq3 ?_
      refine lv_astore_n (lv' := [(3, .ref q9), (0, .ref (x 0)), (1, .int wh), (2, .ref r)]) hx hb dL_count_12 rfl hl (by decide) rfl (fun ls hl => ?_)
      refine lv_iconst (v := nI 1) hx hb dL_count_13 (by decide) ?_
      subst hw0
      exact kqw_n hx hb hrt hlocks hT9 (by decide) hP hD hS ⟨Nat.le_of_ble_eq_true rfl, Nat.le_of_ble_eq_true rfl⟩ dL_count_14
    · exact absurd hT9 (by split <;> omega)
  · have hP : va_P D vwCl ([(x 0, .inr (4, [.ref (v 0), .ref (b 0), .ref (o 0), .ref (h 0), .ref (t 0)]))] ++ (HW b cI z ++ (SW v (b 0) cI (bI true) (lkP lk (people z) z pe) (lkP lk ((fun r s => colsW z r s (-1))) z cn) (lkP lk (rkN z) z rk) ++ ([(h 0, .inr (1, [.ref (h 1), .int (nI nk)]))] ++ ([(r, .inl (cL, 1, .inr (.inl go)))]))))) H := hP.sub [1, 2, 3, 4, 5, 6, 7, 8, 9, 10, 11, 12, 13, 14, 15, 0] rfl
    have hD : va_D (kA w0) ([(x 0, .inr (4, [.ref (v 0), .ref (b 0), .ref (o 0), .ref (h 0), .ref (t 0)]))] ++ (HW b cI z ++ (SW v (b 0) cI (bI true) (lkP lk (people z) z pe) (lkP lk ((fun r s => colsW z r s (-1))) z cn) (lkP lk (rkN z) z rk) ++ ([(h 0, .inr (1, [.ref (h 1), .int (nI nk)]))] ++ ([(r, .inl (cL, 1, .inr (.inl go)))]))))) := hD.sub [1, 2, 3, 4, 5, 6, 7, 8, 9, 10, 11, 12, 13, 14, 15, 0] (by decide) rfl
    refine lv_i2l hx hb dL_count_7 rfl ?_
    refine kx_last hx hb hK hP hD hS 15 3 rfl rfl (by decide) (by decide) dL_count_8 (fun H locs hP hD hS => ?_)
    have hP : va_P D vwCl ([(x 0, .inr (4, [.ref (v 0), .ref (b 0), .ref (o 0), .ref (h 0), .ref (t 0)]))] ++ (HW b cI z ++ (SW v (b 0) cI (bI true) (lkP lk (people z) z pe) (lkP lk ((fun r s => colsW z r s (-1))) z cn) (lkP lk (rkN z) z rk) ++ ([(h 0, .inr (1, [.ref (h 1), .int (nI nk)]))] ++ ([(r, .inl (cL, 1, .inr (.inl (vp_updL go 0 ((countI z nk (cl wh)).toInt64)))))]))))) H := hP
    have hD : va_D (kA w0) ([(x 0, .inr (4, [.ref (v 0), .ref (b 0), .ref (o 0), .ref (h 0), .ref (t 0)]))] ++ (HW b cI z ++ (SW v (b 0) cI (bI true) (lkP lk (people z) z pe) (lkP lk ((fun r s => colsW z r s (-1))) z cn) (lkP lk (rkN z) z rk) ++ ([(h 0, .inr (1, [.ref (h 1), .int (nI nk)]))] ++ ([(r, .inl (cL, 1, .inr (.inl (vp_updL go 0 ((countI z nk (cl wh)).toInt64)))))]))))) := hD
    refine lv_goto (tgt := 15) hx hb dL_count_9 (by decide) ?_
    refine lv_iconst (v := nI 0) hx hb dL_count_15 (by decide) ?_
    subst hw0
    exact kqw_0 hx hb hrt hlocks hT9 hP hD hS ⟨Nat.le_of_ble_eq_true rfl, Nat.le_of_ble_eq_true rfl⟩ dL_count_16
set_option maxHeartbeats 4000000 in
set_option maxRecDepth 100000 in
theorem c_L_setting (l : Launch) (hst : l.stackTraces = false) (D : va_G) (cI cC cH cL : ClassId) (y : Nat → Nat) (x b v u o h t : Nat → Nat) (z : ZZ) (go : Nat → Int64) (st0 : Int32) (r : Nat)  : Met l yL_setting wsL_setting ({ frames := 8, cells := 1, slots := 6, locals := 123 }) (kwx y [.ref (x 0), .int st0, .ref r] D ([(x 0, .inr (4, [.ref (v 0), .ref (b 0), .ref (o 0), .ref (h 0), .ref (t 0)]))] ++ (HW b cI z ++ ([(r, .inl (cL, 1, .inr (.inl go)))]))) (kT cI cC cH cL)) (kqw D ([(x 0, .inr (4, [.ref (v 0), .ref (b 0), .ref (o 0), .ref (h 0), .ref (t 0)]))] ++ (HW b cI z ++ ([(r, .inl (cL, 1, .inr (.inl go)))]))) (if wthn st0 (nI 0) (nI 2) = true then 0 else 1) ([(x 0, .inr (4, [.ref (v 0), .ref (b 0), .ref (o 0), .ref (h 0), .ref (t 0)]))] ++ (HW b cI z ++ ([(r, .inl (cL, 1, .inr (.inl (vp_updL go 0 (z (cl st0)).toInt64))))]))) ([(x 0, .inr (4, [.ref (v 0), .ref (b 0), .ref (o 0), .ref (h 0), .ref (t 0)]))] ++ (HW b cI z ++ ([(r, .inl (cL, 1, .inr (.inl go)))])))) 1 6 (kA ([(x 0, .inr (4, [.ref (v 0), .ref (b 0), .ref (o 0), .ref (h 0), .ref (t 0)]))] ++ (HW b cI z ++ ([(r, .inl (cL, 1, .inr (.inl go)))])))) := by
  refine kx_ofWH (cc := cL_setting) (maxL := 4) (ret := (some .int)) (by decide) rfl ?_
  intro p e s m args below meth c s₁ B hml htb hv
  obtain ⟨⟨rfl, hP, hK, hD0⟩, hX9, hF⟩ := hv
  have hx := B.exec
  have hb := B.bytes
  have hrt := B.returns
  have hts := atoms_spec (ws := wsL_setting) B.pre
  have hown : s.vm.findClass RL = some m.cls := findClass_of_methodNamed B.named
  have hlocks := B.notSynchronized
  have hl := lv_entry ([.ref (x 0), .int st0, .ref r]) (n := 4) (Nat.le_of_ble_eq_true rfl)
  rw [lg_entry_eq]
  generalize (lg_sl ([.ref (x 0), .int st0, .ref r]) ++ List.replicate (4 - (lg_sl ([.ref (x 0), .int st0, .ref r])).length) Slot.unset).toArray = ls at hl ⊢
  have hl : lv_has ls 4 [(0, .ref (x 0)), (1, .int st0), (2, .ref r)] := hl
  have hD := kA_self hD0
  obtain ⟨w0, hw0⟩ : ∃ w : va_W, w = [(x 0, .inr (4, [.ref (v 0), .ref (b 0), .ref (o 0), .ref (h 0), .ref (t 0)]))] ++ (HW b cI z ++ ([(r, .inl (cL, 1, .inr (.inl go)))])) := ⟨_, rfl⟩
  have hD : va_D (kA w0) ([(x 0, .inr (4, [.ref (v 0), .ref (b 0), .ref (o 0), .ref (h 0), .ref (t 0)]))] ++ (HW b cI z ++ ([(r, .inl (cL, 1, .inr (.inl go)))]))) := by rw [hw0]; exact hD
  have hS : va_S (kA w0) s.heap s.heap [] := va_S.rf
  have hXx : hX y (kA w0) s s.heap := by rw [hw0]; exact hX9
  rw [show kA ([(x 0, .inr (4, [.ref (v 0), .ref (b 0), .ref (o 0), .ref (h 0), .ref (t 0)]))] ++ (HW b cI z ++ ([(r, .inl (cL, 1, .inr (.inl go)))]))) = kA w0 from by rw [hw0], show kqw D ([(x 0, .inr (4, [.ref (v 0), .ref (b 0), .ref (o 0), .ref (h 0), .ref (t 0)]))] ++ (HW b cI z ++ ([(r, .inl (cL, 1, .inr (.inl go)))]))) = kqw D w0 from by rw [hw0]]
  have hP : va_P D vwCl ([(x 0, .inr (4, [.ref (v 0), .ref (b 0), .ref (o 0), .ref (h 0), .ref (t 0)]))] ++ (HW b cI z ++ ([(r, .inl (cL, 1, .inr (.inl go)))]))) s.heap := hP
  refine lv_aload_n hx hb dL_setting_0 rfl (lv_at hl 2 rfl) ?_
  refine lv_iconst (v := nI 0) hx hb dL_setting_1 (by decide) ?_
  refine lv_aload_n hx hb dL_setting_2 rfl (lv_at hl 0 rfl) ?_
  refine lv_iload_n hx hb dL_setting_3 rfl (lv_at hl 1 rfl) ?_
  refine kxV (As := [.int st0]) (rest := [.int (nI 0), .ref r]) (C := RX4) (own := RL) ⟨hx, hb, hml, hown, hts⟩ (c_X4_setting l hst D cI cC cH cL y x b v u o h t z st0 ) (cwV 1 hts gL_setting_X4_setting rfl rfl rfl k_X4_setting ⟨Nat.le_of_ble_eq_true rfl, Nat.le_of_ble_eq_true rfl⟩) hP hD hK hS hXx hF [0, 1, 2, 3, 4, 5, 6, 7, 8, 9] [10] rfl rfl (wr := ([(r, .inl (cL, 1, .inr (.inl go)))])) rfl (by decide) (by decide) (by decide) (va_recv (q := (RX4, TX4, 5)) hK hP (ci := 4) (q0 := 0) rfl rfl) rfl hl.1 rfl (Nat.le_of_ble_eq_true rfl) dL_setting_4 ⟨Nat.le_of_ble_eq_true rfl, Nat.le_of_ble_eq_true rfl⟩ (fun E9 ce9 q9 H locs hE hP hD hS hq1 hq2 hq3 => ?_) (fun H locs hT9 hP hD hS => ?_)
  · have hP : va_P D vwCl ([(x 0, .inr (4, [.ref (v 0), .ref (b 0), .ref (o 0), .ref (h 0), .ref (t 0)]))] ++ (HW b cI z ++ ([(r, .inl (cL, 1, .inr (.inl go)))]))) H := hP.sub [1, 2, 3, 4, 5, 6, 7, 8, 9, 10, 0] rfl
    have hD : va_D (kA w0) ([(x 0, .inr (4, [.ref (v 0), .ref (b 0), .ref (o 0), .ref (h 0), .ref (t 0)]))] ++ (HW b cI z ++ ([(r, .inl (cL, 1, .inr (.inl go)))]))) := hD.sub [1, 2, 3, 4, 5, 6, 7, 8, 9, 10, 0] (by decide) rfl
    rcases hE with ⟨hT9, rfl⟩ | ⟨hT9, rfl⟩
    · refine vx_catch hown [] ⟨0, 9, 12, 21⟩ [] (htb.trans rfl) (fun z hz => absurd hz List.not_mem_nil) rfl (by decide) (hts (.classLink RL 21 "java/lang/IndexOutOfBoundsException") (List.mem_of_getElem? (i := 1) rfl)) (hF.at (w := .castable eIO eIO) (List.mem_of_getElem? (i := 5) rfl) rfl _) hq1 hq2 hq3 ?_
      refine lv_astore_n (lv' := [(3, .ref q9), (0, .ref (x 0)), (1, .int st0), (2, .ref r)]) hx hb dL_setting_12 rfl hl (by decide) rfl (fun ls hl => ?_)
      refine lv_iconst (v := nI 1) hx hb dL_setting_13 (by decide) ?_
      subst hw0
      exact kqw_n hx hb hrt hlocks hT9 (by decide) hP hD hS ⟨Nat.le_of_ble_eq_true rfl, Nat.le_of_ble_eq_true rfl⟩ dL_setting_14
    · exact absurd hT9 (by split <;> omega)
  · have hP : va_P D vwCl ([(x 0, .inr (4, [.ref (v 0), .ref (b 0), .ref (o 0), .ref (h 0), .ref (t 0)]))] ++ (HW b cI z ++ ([(r, .inl (cL, 1, .inr (.inl go)))]))) H := hP.sub [1, 2, 3, 4, 5, 6, 7, 8, 9, 10, 0] rfl
    have hD : va_D (kA w0) ([(x 0, .inr (4, [.ref (v 0), .ref (b 0), .ref (o 0), .ref (h 0), .ref (t 0)]))] ++ (HW b cI z ++ ([(r, .inl (cL, 1, .inr (.inl go)))]))) := hD.sub [1, 2, 3, 4, 5, 6, 7, 8, 9, 10, 0] (by decide) rfl
    refine lv_i2l hx hb dL_setting_7 rfl ?_
    refine kx_last hx hb hK hP hD hS 10 3 rfl rfl (by decide) (by decide) dL_setting_8 (fun H locs hP hD hS => ?_)
    have hP : va_P D vwCl ([(x 0, .inr (4, [.ref (v 0), .ref (b 0), .ref (o 0), .ref (h 0), .ref (t 0)]))] ++ (HW b cI z ++ ([(r, .inl (cL, 1, .inr (.inl (vp_updL go 0 ((z (cl st0)).toInt64)))))]))) H := hP
    have hD : va_D (kA w0) ([(x 0, .inr (4, [.ref (v 0), .ref (b 0), .ref (o 0), .ref (h 0), .ref (t 0)]))] ++ (HW b cI z ++ ([(r, .inl (cL, 1, .inr (.inl (vp_updL go 0 ((z (cl st0)).toInt64)))))]))) := hD
    refine lv_goto (tgt := 15) hx hb dL_setting_9 (by decide) ?_
    refine lv_iconst (v := nI 0) hx hb dL_setting_15 (by decide) ?_
    subst hw0
    exact kqw_0 hx hb hrt hlocks hT9 hP hD hS ⟨Nat.le_of_ble_eq_true rfl, Nat.le_of_ble_eq_true rfl⟩ dL_setting_16
set_option maxHeartbeats 4000000 in
set_option maxRecDepth 100000 in
theorem c_L_leastHeight (l : Launch) (hst : l.stackTraces = false) (D : va_G) (cI cC cH cL : ClassId) (y : Nat → Nat) (x b v u o h t : Nat → Nat) (z : ZZ) (go : Nat → Int64) (ro : Int32) (r : Nat) (hA : VAL z) : Met l yL_leastHeight wsL_leastHeight ({ frames := 8, cells := 1, slots := 6, locals := 124 }) (kwx y [.ref (x 0), .int ro, .ref r] D ([(x 0, .inr (4, [.ref (v 0), .ref (b 0), .ref (o 0), .ref (h 0), .ref (t 0)]))] ++ (HW b cI z ++ ([(r, .inl (cL, 1, .inr (.inl go)))]))) (kT cI cC cH cL)) (kqw D ([(x 0, .inr (4, [.ref (v 0), .ref (b 0), .ref (o 0), .ref (h 0), .ref (t 0)]))] ++ (HW b cI z ++ ([(r, .inl (cL, 1, .inr (.inl go)))]))) (tRow z ro) ([(x 0, .inr (4, [.ref (v 0), .ref (b 0), .ref (o 0), .ref (h 0), .ref (t 0)]))] ++ (HW b cI z ++ ([(r, .inl (cL, 1, .inr (.inl (vp_updL go 0 (leastForI z (cl ro)).toInt64))))]))) ([(x 0, .inr (4, [.ref (v 0), .ref (b 0), .ref (o 0), .ref (h 0), .ref (t 0)]))] ++ (HW b cI z ++ ([(r, .inl (cL, 1, .inr (.inl go)))])))) 1 6 (kA ([(x 0, .inr (4, [.ref (v 0), .ref (b 0), .ref (o 0), .ref (h 0), .ref (t 0)]))] ++ (HW b cI z ++ ([(r, .inl (cL, 1, .inr (.inl go)))])))) := by
  refine kx_ofWH (cc := cL_leastHeight) (maxL := 4) (ret := (some .int)) (by decide) rfl ?_
  intro p e s m args below meth c s₁ B hml htb hv
  obtain ⟨⟨rfl, hP, hK, hD0⟩, hX9, hF⟩ := hv
  have hx := B.exec
  have hb := B.bytes
  have hrt := B.returns
  have hts := atoms_spec (ws := wsL_leastHeight) B.pre
  have hown : s.vm.findClass RL = some m.cls := findClass_of_methodNamed B.named
  have hlocks := B.notSynchronized
  have hl := lv_entry ([.ref (x 0), .int ro, .ref r]) (n := 4) (Nat.le_of_ble_eq_true rfl)
  rw [lg_entry_eq]
  generalize (lg_sl ([.ref (x 0), .int ro, .ref r]) ++ List.replicate (4 - (lg_sl ([.ref (x 0), .int ro, .ref r])).length) Slot.unset).toArray = ls at hl ⊢
  have hl : lv_has ls 4 [(0, .ref (x 0)), (1, .int ro), (2, .ref r)] := hl
  have hD := kA_self hD0
  obtain ⟨w0, hw0⟩ : ∃ w : va_W, w = [(x 0, .inr (4, [.ref (v 0), .ref (b 0), .ref (o 0), .ref (h 0), .ref (t 0)]))] ++ (HW b cI z ++ ([(r, .inl (cL, 1, .inr (.inl go)))])) := ⟨_, rfl⟩
  have hD : va_D (kA w0) ([(x 0, .inr (4, [.ref (v 0), .ref (b 0), .ref (o 0), .ref (h 0), .ref (t 0)]))] ++ (HW b cI z ++ ([(r, .inl (cL, 1, .inr (.inl go)))]))) := by rw [hw0]; exact hD
  have hS : va_S (kA w0) s.heap s.heap [] := va_S.rf
  have hXx : hX y (kA w0) s s.heap := by rw [hw0]; exact hX9
  rw [show kA ([(x 0, .inr (4, [.ref (v 0), .ref (b 0), .ref (o 0), .ref (h 0), .ref (t 0)]))] ++ (HW b cI z ++ ([(r, .inl (cL, 1, .inr (.inl go)))]))) = kA w0 from by rw [hw0], show kqw D ([(x 0, .inr (4, [.ref (v 0), .ref (b 0), .ref (o 0), .ref (h 0), .ref (t 0)]))] ++ (HW b cI z ++ ([(r, .inl (cL, 1, .inr (.inl go)))]))) = kqw D w0 from by rw [hw0]]
  have hP : va_P D vwCl ([(x 0, .inr (4, [.ref (v 0), .ref (b 0), .ref (o 0), .ref (h 0), .ref (t 0)]))] ++ (HW b cI z ++ ([(r, .inl (cL, 1, .inr (.inl go)))]))) s.heap := hP
  refine lv_aload_n hx hb dL_leastHeight_0 rfl (lv_at hl 2 rfl) ?_
  refine lv_iconst (v := nI 0) hx hb dL_leastHeight_1 (by decide) ?_
  refine lv_aload_n hx hb dL_leastHeight_2 rfl (lv_at hl 0 rfl) ?_
  refine lv_iload_n hx hb dL_leastHeight_3 rfl (lv_at hl 1 rfl) ?_
  refine kxV (As := [.int ro]) (rest := [.int (nI 0), .ref r]) (C := RX4) (own := RL) ⟨hx, hb, hml, hown, hts⟩ (c_X4_leastHeight l hst D cI cC cH cL y x b v u o h t z ro (by first | assumption | omega)) (cwV 1 hts gL_leastHeight_X4_leastHeight rfl rfl rfl k_X4_leastHeight ⟨Nat.le_of_ble_eq_true rfl, Nat.le_of_ble_eq_true rfl⟩) hP hD hK hS hXx hF [0, 1, 2, 3, 4, 5, 6, 7, 8, 9] [10] rfl rfl (wr := ([(r, .inl (cL, 1, .inr (.inl go)))])) rfl (by decide) (by decide) (by decide) (va_recv (q := (RX4, TX4, 5)) hK hP (ci := 4) (q0 := 0) rfl rfl) rfl hl.1 rfl (Nat.le_of_ble_eq_true rfl) dL_leastHeight_4 ⟨Nat.le_of_ble_eq_true rfl, Nat.le_of_ble_eq_true rfl⟩ (fun E9 ce9 q9 H locs hE hP hD hS hq1 hq2 hq3 => ?_) (fun H locs hT9 hP hD hS => ?_)
  · have hP : va_P D vwCl ([(x 0, .inr (4, [.ref (v 0), .ref (b 0), .ref (o 0), .ref (h 0), .ref (t 0)]))] ++ (HW b cI z ++ ([(r, .inl (cL, 1, .inr (.inl go)))]))) H := hP.sub [1, 2, 3, 4, 5, 6, 7, 8, 9, 10, 0] rfl
    have hD : va_D (kA w0) ([(x 0, .inr (4, [.ref (v 0), .ref (b 0), .ref (o 0), .ref (h 0), .ref (t 0)]))] ++ (HW b cI z ++ ([(r, .inl (cL, 1, .inr (.inl go)))]))) := hD.sub [1, 2, 3, 4, 5, 6, 7, 8, 9, 10, 0] (by decide) rfl
    rcases hE with ⟨hT9, rfl⟩ | ⟨hT9, rfl⟩
    · refine vx_catch hown [] ⟨0, 9, 12, 21⟩ [] (htb.trans rfl) (fun z hz => absurd hz List.not_mem_nil) rfl (by decide) (hts (.classLink RL 21 "java/lang/IndexOutOfBoundsException") (List.mem_of_getElem? (i := 1) rfl)) (hF.at (w := .castable eIO eIO) (List.mem_of_getElem? (i := 5) rfl) rfl _) hq1 hq2 hq3 ?_
      refine lv_astore_n (lv' := [(3, .ref q9), (0, .ref (x 0)), (1, .int ro), (2, .ref r)]) hx hb dL_leastHeight_12 rfl hl (by decide) rfl (fun ls hl => ?_)
      refine lv_iconst (v := nI 1) hx hb dL_leastHeight_13 (by decide) ?_
      subst hw0
      exact kqw_n hx hb hrt hlocks hT9 (by decide) hP hD hS ⟨Nat.le_of_ble_eq_true rfl, Nat.le_of_ble_eq_true rfl⟩ dL_leastHeight_14
    · exact absurd hT9 (by unfold tRow; split <;> omega)
  · have hP : va_P D vwCl ([(x 0, .inr (4, [.ref (v 0), .ref (b 0), .ref (o 0), .ref (h 0), .ref (t 0)]))] ++ (HW b cI z ++ ([(r, .inl (cL, 1, .inr (.inl go)))]))) H := hP.sub [1, 2, 3, 4, 5, 6, 7, 8, 9, 10, 0] rfl
    have hD : va_D (kA w0) ([(x 0, .inr (4, [.ref (v 0), .ref (b 0), .ref (o 0), .ref (h 0), .ref (t 0)]))] ++ (HW b cI z ++ ([(r, .inl (cL, 1, .inr (.inl go)))]))) := hD.sub [1, 2, 3, 4, 5, 6, 7, 8, 9, 10, 0] (by decide) rfl
    refine lv_i2l hx hb dL_leastHeight_7 rfl ?_
    refine kx_last hx hb hK hP hD hS 10 3 rfl rfl (by decide) (by decide) dL_leastHeight_8 (fun H locs hP hD hS => ?_)
    have hP : va_P D vwCl ([(x 0, .inr (4, [.ref (v 0), .ref (b 0), .ref (o 0), .ref (h 0), .ref (t 0)]))] ++ (HW b cI z ++ ([(r, .inl (cL, 1, .inr (.inl (vp_updL go 0 ((leastForI z (cl ro)).toInt64)))))]))) H := hP
    have hD : va_D (kA w0) ([(x 0, .inr (4, [.ref (v 0), .ref (b 0), .ref (o 0), .ref (h 0), .ref (t 0)]))] ++ (HW b cI z ++ ([(r, .inl (cL, 1, .inr (.inl (vp_updL go 0 ((leastForI z (cl ro)).toInt64)))))]))) := hD
    refine lv_goto (tgt := 15) hx hb dL_leastHeight_9 (by decide) ?_
    refine lv_iconst (v := nI 0) hx hb dL_leastHeight_15 (by decide) ?_
    subst hw0
    exact kqw_0 hx hb hrt hlocks hT9 hP hD hS ⟨Nat.le_of_ble_eq_true rfl, Nat.le_of_ble_eq_true rfl⟩ dL_leastHeight_16
set_option maxHeartbeats 4000000 in
set_option maxRecDepth 100000 in
theorem c_L_ifLifted (l : Launch) (hst : l.stackTraces = false) (D : va_G) (cI cC cH cL : ClassId) (y : Nat → Nat) (x b v u o h t : Nat → Nat) (z : ZZ) (z2 : ZZ) (lk2 : Bool) (pe2 cn2 rk2 : ZZ) (go : Nat → Int64) (ro : Int32) (h0 : Int32) (r : Nat) (hw : WF z) (hws : WS z) : Met l yL_ifLifted wsL_ifLifted ({ frames := 8, cells := 2, slots := 12, locals := 159 }) (kwx y [.ref (x 0), .int ro, .int h0, .ref r] D ([(x 0, .inr (4, [.ref (v 0), .ref (b 0), .ref (o 0), .ref (h 0), .ref (t 0)]))] ++ (HW b cI z ++ (HW u cI z2 ++ (SW o (u 0) cI (bI lk2) pe2 cn2 rk2 ++ ([(r, .inl (cL, 1, .inr (.inl go)))]))))) (kT cI cC cH cL)) (kqw D ([(x 0, .inr (4, [.ref (v 0), .ref (b 0), .ref (o 0), .ref (h 0), .ref (t 0)]))] ++ (HW b cI z ++ (HW u cI z2 ++ (SW o (u 0) cI (bI lk2) pe2 cn2 rk2 ++ ([(r, .inl (cL, 1, .inr (.inl go)))]))))) (tLift z ro h0) ([(x 0, .inr (4, [.ref (v 0), .ref (b 0), .ref (o 0), .ref (h 0), .ref (t 0)]))] ++ (HW b cI z ++ (HW u cI (upd z (5 + 4 * cl ro + 1) h0) ++ (SW o (u 0) cI (bI true) (lkP false (people (upd z (5 + 4 * cl ro + 1) h0)) (upd z (5 + 4 * cl ro + 1) h0) pe2) (lkP false ((fun r s => colsW (upd z (5 + 4 * cl ro + 1) h0) r s (-1))) (upd z (5 + 4 * cl ro + 1) h0) cn2) (lkP false (rkN (upd z (5 + 4 * cl ro + 1) h0)) (upd z (5 + 4 * cl ro + 1) h0) rk2) ++ ([(r, .inl (cL, 1, .inr (.inl (vp_updL go 0 (nI (liftThen z (cl ro) h0)).toInt64))))]))))) ([(x 0, .inr (4, [.ref (v 0), .ref (b 0), .ref (o 0), .ref (h 0), .ref (t 0)]))] ++ (HW b cI z ++ (HW u cI z2 ++ (SW o (u 0) cI (bI lk2) pe2 cn2 rk2 ++ ([(r, .inl (cL, 1, .inr (.inl go)))])))))) 2 12 (kA ([(x 0, .inr (4, [.ref (v 0), .ref (b 0), .ref (o 0), .ref (h 0), .ref (t 0)]))] ++ (HW b cI z ++ (HW u cI z2 ++ (SW o (u 0) cI (bI lk2) pe2 cn2 rk2 ++ ([(r, .inl (cL, 1, .inr (.inl go)))])))))) := by
  refine kx_ofWH (cc := cL_ifLifted) (maxL := 5) (ret := (some .int)) (by decide) rfl ?_
  intro p e s m args below meth c s₁ B hml htb hv
  obtain ⟨⟨rfl, hP, hK, hD0⟩, hX9, hF⟩ := hv
  have hx := B.exec
  have hb := B.bytes
  have hrt := B.returns
  have hts := atoms_spec (ws := wsL_ifLifted) B.pre
  have hown : s.vm.findClass RL = some m.cls := findClass_of_methodNamed B.named
  have hlocks := B.notSynchronized
  have hl := lv_entry ([.ref (x 0), .int ro, .int h0, .ref r]) (n := 5) (Nat.le_of_ble_eq_true rfl)
  rw [lg_entry_eq]
  generalize (lg_sl ([.ref (x 0), .int ro, .int h0, .ref r]) ++ List.replicate (5 - (lg_sl ([.ref (x 0), .int ro, .int h0, .ref r])).length) Slot.unset).toArray = ls at hl ⊢
  have hl : lv_has ls 5 [(0, .ref (x 0)), (1, .int ro), (2, .int h0), (3, .ref r)] := hl
  have hD := kA_self hD0
  obtain ⟨w0, hw0⟩ : ∃ w : va_W, w = [(x 0, .inr (4, [.ref (v 0), .ref (b 0), .ref (o 0), .ref (h 0), .ref (t 0)]))] ++ (HW b cI z ++ (HW u cI z2 ++ (SW o (u 0) cI (bI lk2) pe2 cn2 rk2 ++ ([(r, .inl (cL, 1, .inr (.inl go)))])))) := ⟨_, rfl⟩
  have hD : va_D (kA w0) ([(x 0, .inr (4, [.ref (v 0), .ref (b 0), .ref (o 0), .ref (h 0), .ref (t 0)]))] ++ (HW b cI z ++ (HW u cI z2 ++ (SW o (u 0) cI (bI lk2) pe2 cn2 rk2 ++ ([(r, .inl (cL, 1, .inr (.inl go)))]))))) := by rw [hw0]; exact hD
  have hS : va_S (kA w0) s.heap s.heap [] := va_S.rf
  have hXx : hX y (kA w0) s s.heap := by rw [hw0]; exact hX9
  rw [show kA ([(x 0, .inr (4, [.ref (v 0), .ref (b 0), .ref (o 0), .ref (h 0), .ref (t 0)]))] ++ (HW b cI z ++ (HW u cI z2 ++ (SW o (u 0) cI (bI lk2) pe2 cn2 rk2 ++ ([(r, .inl (cL, 1, .inr (.inl go)))]))))) = kA w0 from by rw [hw0], show kqw D ([(x 0, .inr (4, [.ref (v 0), .ref (b 0), .ref (o 0), .ref (h 0), .ref (t 0)]))] ++ (HW b cI z ++ (HW u cI z2 ++ (SW o (u 0) cI (bI lk2) pe2 cn2 rk2 ++ ([(r, .inl (cL, 1, .inr (.inl go)))]))))) = kqw D w0 from by rw [hw0]]
  have hP : va_P D vwCl ([(x 0, .inr (4, [.ref (v 0), .ref (b 0), .ref (o 0), .ref (h 0), .ref (t 0)]))] ++ (HW b cI z ++ (HW u cI z2 ++ (SW o (u 0) cI (bI lk2) pe2 cn2 rk2 ++ ([(r, .inl (cL, 1, .inr (.inl go)))]))))) s.heap := hP
  refine lv_aload_n hx hb dL_ifLifted_0 rfl (lv_at hl 3 rfl) ?_
  refine lv_iconst (v := nI 0) hx hb dL_ifLifted_1 (by decide) ?_
  refine lv_aload_n hx hb dL_ifLifted_2 rfl (lv_at hl 0 rfl) ?_
  refine lv_iload_n hx hb dL_ifLifted_3 rfl (lv_at hl 1 rfl) ?_
  refine lv_iload_n hx hb dL_ifLifted_4 rfl (lv_at hl 2 rfl) ?_
  refine kxV (As := [.int ro, .int h0]) (rest := [.int (nI 0), .ref r]) (C := RX4) (own := RL) ⟨hx, hb, hml, hown, hts⟩ (c_X4_ifLifted l hst D cI cC cH cL y x b v u o h t z z2 lk2 pe2 cn2 rk2 ro h0 (by first | assumption | omega) (by first | assumption | omega)) (cwV 2 hts gL_ifLifted_X4_ifLifted rfl rfl rfl k_X4_ifLifted ⟨Nat.le_of_ble_eq_true rfl, Nat.le_of_ble_eq_true rfl⟩) hP hD hK hS hXx hF [0, 1, 2, 3, 4, 5, 6, 7, 8, 9, 10, 11, 12, 13, 14, 15, 16, 17, 18, 19, 20, 21, 22] [23] rfl rfl (wr := ([(r, .inl (cL, 1, .inr (.inl go)))])) rfl (by decide) (by decide) (by decide) (va_recv (q := (RX4, TX4, 5)) hK hP (ci := 4) (q0 := 0) rfl rfl) rfl hl.1 rfl (Nat.le_of_ble_eq_true rfl) dL_ifLifted_5 ⟨Nat.le_of_ble_eq_true rfl, Nat.le_of_ble_eq_true rfl⟩ (fun E9 ce9 q9 H locs hE hP hD hS hq1 hq2 hq3 => ?_) (fun H locs hT9 hP hD hS => ?_)
  · have hP : va_P D vwCl ([(x 0, .inr (4, [.ref (v 0), .ref (b 0), .ref (o 0), .ref (h 0), .ref (t 0)]))] ++ (HW b cI z ++ (HW u cI z2 ++ (SW o (u 0) cI (bI lk2) pe2 cn2 rk2 ++ ([(r, .inl (cL, 1, .inr (.inl go)))]))))) H := hP.sub [1, 2, 3, 4, 5, 6, 7, 8, 9, 10, 11, 12, 13, 14, 15, 16, 17, 18, 19, 20, 21, 22, 23, 0] rfl
    have hD : va_D (kA w0) ([(x 0, .inr (4, [.ref (v 0), .ref (b 0), .ref (o 0), .ref (h 0), .ref (t 0)]))] ++ (HW b cI z ++ (HW u cI z2 ++ (SW o (u 0) cI (bI lk2) pe2 cn2 rk2 ++ ([(r, .inl (cL, 1, .inr (.inl go)))]))))) := hD.sub [1, 2, 3, 4, 5, 6, 7, 8, 9, 10, 11, 12, 13, 14, 15, 16, 17, 18, 19, 20, 21, 22, 23, 0] (by decide) rfl
    rcases hE with ⟨hT9, rfl⟩ | ⟨hT9, rfl⟩
    · refine vx_catch hown [] ⟨0, 10, 13, 21⟩ [⟨0, 10, 17, 13⟩] (htb.trans rfl) (fun z hz => absurd hz List.not_mem_nil) rfl (by decide) (hts (.classLink RL 21 "java/lang/IndexOutOfBoundsException") (List.mem_of_getElem? (i := 1) rfl)) (hF.at (w := .castable eIO eIO) (List.mem_of_getElem? (i := 5) rfl) rfl _) hq1 hq2 hq3 ?_
      refine lv_astore (lv' := [(4, .ref q9), (0, .ref (x 0)), (1, .int ro), (2, .int h0), (3, .ref r)]) hx hb dL_ifLifted_13 hl (by decide) rfl (fun ls hl => ?_)
      refine lv_iconst (v := nI 1) hx hb dL_ifLifted_15 (by decide) ?_
      subst hw0
      exact kqw_n hx hb hrt hlocks hT9 (by decide) hP hD hS ⟨Nat.le_of_ble_eq_true rfl, Nat.le_of_ble_eq_true rfl⟩ dL_ifLifted_16
    · refine vx_catch hown [⟨0, 10, 13, 21⟩] ⟨0, 10, 17, 13⟩ [] (htb.trans rfl) (fun z hz => by rcases List.mem_singleton.mp hz with rfl; exact Or.inr ⟨by decide, _, (hts (.classLink RL 21 "java/lang/IndexOutOfBoundsException") (List.mem_of_getElem? (i := 1) rfl)), hF.2.2.2.1⟩) rfl (by decide) (hts (.classLink RL 13 "java/lang/IllegalArgumentException") (List.mem_of_getElem? (i := 2) rfl)) (hF.at (w := .castable eIA eIA) (List.mem_of_getElem? (i := 3) rfl) rfl _) hq1 hq2 hq3 ?_
      refine lv_astore (lv' := [(4, .ref q9), (0, .ref (x 0)), (1, .int ro), (2, .int h0), (3, .ref r)]) hx hb dL_ifLifted_17 hl (by decide) rfl (fun ls hl => ?_)
      refine lv_iconst (v := nI 2) hx hb dL_ifLifted_19 (by decide) ?_
      subst hw0
      exact kqw_n hx hb hrt hlocks hT9 (by decide) hP hD hS ⟨Nat.le_of_ble_eq_true rfl, Nat.le_of_ble_eq_true rfl⟩ dL_ifLifted_20
  · have hP : va_P D vwCl ([(x 0, .inr (4, [.ref (v 0), .ref (b 0), .ref (o 0), .ref (h 0), .ref (t 0)]))] ++ (HW b cI z ++ (HW u cI (upd z (5 + 4 * cl ro + 1) h0) ++ (SW o (u 0) cI (bI true) (lkP false (people (upd z (5 + 4 * cl ro + 1) h0)) (upd z (5 + 4 * cl ro + 1) h0) pe2) (lkP false ((fun r s => colsW (upd z (5 + 4 * cl ro + 1) h0) r s (-1))) (upd z (5 + 4 * cl ro + 1) h0) cn2) (lkP false (rkN (upd z (5 + 4 * cl ro + 1) h0)) (upd z (5 + 4 * cl ro + 1) h0) rk2) ++ ([(r, .inl (cL, 1, .inr (.inl go)))]))))) H := hP.sub [1, 2, 3, 4, 5, 6, 7, 8, 9, 10, 11, 12, 13, 14, 15, 16, 17, 18, 19, 20, 21, 22, 23, 0] rfl
    have hD : va_D (kA w0) ([(x 0, .inr (4, [.ref (v 0), .ref (b 0), .ref (o 0), .ref (h 0), .ref (t 0)]))] ++ (HW b cI z ++ (HW u cI (upd z (5 + 4 * cl ro + 1) h0) ++ (SW o (u 0) cI (bI true) (lkP false (people (upd z (5 + 4 * cl ro + 1) h0)) (upd z (5 + 4 * cl ro + 1) h0) pe2) (lkP false ((fun r s => colsW (upd z (5 + 4 * cl ro + 1) h0) r s (-1))) (upd z (5 + 4 * cl ro + 1) h0) cn2) (lkP false (rkN (upd z (5 + 4 * cl ro + 1) h0)) (upd z (5 + 4 * cl ro + 1) h0) rk2) ++ ([(r, .inl (cL, 1, .inr (.inl go)))]))))) := hD.sub [1, 2, 3, 4, 5, 6, 7, 8, 9, 10, 11, 12, 13, 14, 15, 16, 17, 18, 19, 20, 21, 22, 23, 0] (by decide) rfl
    refine lv_i2l hx hb dL_ifLifted_8 rfl ?_
    refine kx_last hx hb hK hP hD hS 23 3 rfl rfl (by decide) (by decide) dL_ifLifted_9 (fun H locs hP hD hS => ?_)
    have hP : va_P D vwCl ([(x 0, .inr (4, [.ref (v 0), .ref (b 0), .ref (o 0), .ref (h 0), .ref (t 0)]))] ++ (HW b cI z ++ (HW u cI (upd z (5 + 4 * cl ro + 1) h0) ++ (SW o (u 0) cI (bI true) (lkP false (people (upd z (5 + 4 * cl ro + 1) h0)) (upd z (5 + 4 * cl ro + 1) h0) pe2) (lkP false ((fun r s => colsW (upd z (5 + 4 * cl ro + 1) h0) r s (-1))) (upd z (5 + 4 * cl ro + 1) h0) cn2) (lkP false (rkN (upd z (5 + 4 * cl ro + 1) h0)) (upd z (5 + 4 * cl ro + 1) h0) rk2) ++ ([(r, .inl (cL, 1, .inr (.inl (vp_updL go 0 ((nI (liftThen z (cl ro) h0)).toInt64)))))]))))) H := hP
    have hD : va_D (kA w0) ([(x 0, .inr (4, [.ref (v 0), .ref (b 0), .ref (o 0), .ref (h 0), .ref (t 0)]))] ++ (HW b cI z ++ (HW u cI (upd z (5 + 4 * cl ro + 1) h0) ++ (SW o (u 0) cI (bI true) (lkP false (people (upd z (5 + 4 * cl ro + 1) h0)) (upd z (5 + 4 * cl ro + 1) h0) pe2) (lkP false ((fun r s => colsW (upd z (5 + 4 * cl ro + 1) h0) r s (-1))) (upd z (5 + 4 * cl ro + 1) h0) cn2) (lkP false (rkN (upd z (5 + 4 * cl ro + 1) h0)) (upd z (5 + 4 * cl ro + 1) h0) rk2) ++ ([(r, .inl (cL, 1, .inr (.inl (vp_updL go 0 ((nI (liftThen z (cl ro) h0)).toInt64)))))]))))) := hD
    refine lv_goto (tgt := 21) hx hb dL_ifLifted_10 (by decide) ?_
    refine lv_iconst (v := nI 0) hx hb dL_ifLifted_21 (by decide) ?_
    subst hw0
    exact kqw_0 hx hb hrt hlocks hT9 hP hD hS ⟨Nat.le_of_ble_eq_true rfl, Nat.le_of_ble_eq_true rfl⟩ dL_ifLifted_22
set_option maxHeartbeats 4000000 in
set_option maxRecDepth 100000 in
theorem c_L_ifTaken (l : Launch) (hst : l.stackTraces = false) (D : va_G) (cI cC cH cL : ClassId) (y : Nat → Nat) (x b v u o h t : Nat → Nat) (z : ZZ) (lk : Bool) (pe cn rk : ZZ) (go : Nat → Int64) (ro : Int32) (se : Int32) (r : Nat) (hw : WF z) (hws : WS z) (hL0 : lk = true → LKR z pe cn rk) : Met l yL_ifTaken wsL_ifTaken ({ frames := 9, cells := 2, slots := 12, locals := 147 }) (kwx y [.ref (x 0), .int ro, .int se, .ref r] D ([(x 0, .inr (4, [.ref (v 0), .ref (b 0), .ref (o 0), .ref (h 0), .ref (t 0)]))] ++ (HW b cI z ++ (SW v (b 0) cI (bI lk) pe cn rk ++ ([(r, .inl (cL, 1, .inr (.inl go)))])))) (kT cI cC cH cL)) (kqw D ([(x 0, .inr (4, [.ref (v 0), .ref (b 0), .ref (o 0), .ref (h 0), .ref (t 0)]))] ++ (HW b cI z ++ (SW v (b 0) cI (bI lk) pe cn rk ++ ([(r, .inl (cL, 1, .inr (.inl go)))])))) (tSeat z ro se) ([(x 0, .inr (4, [.ref (v 0), .ref (b 0), .ref (o 0), .ref (h 0), .ref (t 0)]))] ++ (HW b cI z ++ (SW v (b 0) cI (bI true) (lkP lk (people z) z pe) (lkP lk ((fun r s => colsW z r s (-1))) z cn) (lkP lk (rkN z) z rk) ++ ([(r, .inl (cL, 1, .inr (.inl (vp_updL go 0 (nI (takThen z (cl ro) (cl se))).toInt64))))])))) ([(x 0, .inr (4, [.ref (v 0), .ref (b 0), .ref (o 0), .ref (h 0), .ref (t 0)]))] ++ (HW b cI z ++ (SW v (b 0) cI (bI lk) pe cn rk ++ ([(r, .inl (cL, 1, .inr (.inl go)))]))))) 2 12 (kA ([(x 0, .inr (4, [.ref (v 0), .ref (b 0), .ref (o 0), .ref (h 0), .ref (t 0)]))] ++ (HW b cI z ++ (SW v (b 0) cI (bI lk) pe cn rk ++ ([(r, .inl (cL, 1, .inr (.inl go)))]))))) := by
  refine kx_ofWH (cc := cL_ifTaken) (maxL := 5) (ret := (some .int)) (by decide) rfl ?_
  intro p e s m args below meth c s₁ B hml htb hv
  obtain ⟨⟨rfl, hP, hK, hD0⟩, hX9, hF⟩ := hv
  have hx := B.exec
  have hb := B.bytes
  have hrt := B.returns
  have hts := atoms_spec (ws := wsL_ifTaken) B.pre
  have hown : s.vm.findClass RL = some m.cls := findClass_of_methodNamed B.named
  have hlocks := B.notSynchronized
  have hl := lv_entry ([.ref (x 0), .int ro, .int se, .ref r]) (n := 5) (Nat.le_of_ble_eq_true rfl)
  rw [lg_entry_eq]
  generalize (lg_sl ([.ref (x 0), .int ro, .int se, .ref r]) ++ List.replicate (5 - (lg_sl ([.ref (x 0), .int ro, .int se, .ref r])).length) Slot.unset).toArray = ls at hl ⊢
  have hl : lv_has ls 5 [(0, .ref (x 0)), (1, .int ro), (2, .int se), (3, .ref r)] := hl
  have hD := kA_self hD0
  obtain ⟨w0, hw0⟩ : ∃ w : va_W, w = [(x 0, .inr (4, [.ref (v 0), .ref (b 0), .ref (o 0), .ref (h 0), .ref (t 0)]))] ++ (HW b cI z ++ (SW v (b 0) cI (bI lk) pe cn rk ++ ([(r, .inl (cL, 1, .inr (.inl go)))]))) := ⟨_, rfl⟩
  have hD : va_D (kA w0) ([(x 0, .inr (4, [.ref (v 0), .ref (b 0), .ref (o 0), .ref (h 0), .ref (t 0)]))] ++ (HW b cI z ++ (SW v (b 0) cI (bI lk) pe cn rk ++ ([(r, .inl (cL, 1, .inr (.inl go)))])))) := by rw [hw0]; exact hD
  have hS : va_S (kA w0) s.heap s.heap [] := va_S.rf
  have hXx : hX y (kA w0) s s.heap := by rw [hw0]; exact hX9
  rw [show kA ([(x 0, .inr (4, [.ref (v 0), .ref (b 0), .ref (o 0), .ref (h 0), .ref (t 0)]))] ++ (HW b cI z ++ (SW v (b 0) cI (bI lk) pe cn rk ++ ([(r, .inl (cL, 1, .inr (.inl go)))])))) = kA w0 from by rw [hw0], show kqw D ([(x 0, .inr (4, [.ref (v 0), .ref (b 0), .ref (o 0), .ref (h 0), .ref (t 0)]))] ++ (HW b cI z ++ (SW v (b 0) cI (bI lk) pe cn rk ++ ([(r, .inl (cL, 1, .inr (.inl go)))])))) = kqw D w0 from by rw [hw0]]
  have hP : va_P D vwCl ([(x 0, .inr (4, [.ref (v 0), .ref (b 0), .ref (o 0), .ref (h 0), .ref (t 0)]))] ++ (HW b cI z ++ (SW v (b 0) cI (bI lk) pe cn rk ++ ([(r, .inl (cL, 1, .inr (.inl go)))])))) s.heap := hP
  refine lv_aload_n hx hb dL_ifTaken_0 rfl (lv_at hl 3 rfl) ?_
  refine lv_iconst (v := nI 0) hx hb dL_ifTaken_1 (by decide) ?_
  refine lv_aload_n hx hb dL_ifTaken_2 rfl (lv_at hl 0 rfl) ?_
  refine lv_iload_n hx hb dL_ifTaken_3 rfl (lv_at hl 1 rfl) ?_
  refine lv_iload_n hx hb dL_ifTaken_4 rfl (lv_at hl 2 rfl) ?_
  refine kxV (As := [.int ro, .int se]) (rest := [.int (nI 0), .ref r]) (C := RX4) (own := RL) ⟨hx, hb, hml, hown, hts⟩ (c_X4_ifTaken l hst D cI cC cH cL y x b v u o h t z lk pe cn rk ro se (by first | assumption | omega) (by first | assumption | omega) (by first | assumption | omega)) (cwV 2 hts gL_ifTaken_X4_ifTaken rfl rfl rfl k_X4_ifTaken ⟨Nat.le_of_ble_eq_true rfl, Nat.le_of_ble_eq_true rfl⟩) hP hD hK hS hXx hF [0, 1, 2, 3, 4, 5, 6, 7, 8, 9, 10, 11, 12, 13] [14] rfl rfl (wr := ([(r, .inl (cL, 1, .inr (.inl go)))])) rfl (by decide) (by decide) (by decide) (va_recv (q := (RX4, TX4, 5)) hK hP (ci := 4) (q0 := 0) rfl rfl) rfl hl.1 rfl (Nat.le_of_ble_eq_true rfl) dL_ifTaken_5 ⟨Nat.le_of_ble_eq_true rfl, Nat.le_of_ble_eq_true rfl⟩ (fun E9 ce9 q9 H locs hE hP hD hS hq1 hq2 hq3 => ?_) (fun H locs hT9 hP hD hS => ?_)
  · have hP : va_P D vwCl ([(x 0, .inr (4, [.ref (v 0), .ref (b 0), .ref (o 0), .ref (h 0), .ref (t 0)]))] ++ (HW b cI z ++ (SW v (b 0) cI (bI lk) pe cn rk ++ ([(r, .inl (cL, 1, .inr (.inl go)))])))) H := hP.sub [1, 2, 3, 4, 5, 6, 7, 8, 9, 10, 11, 12, 13, 14, 0] rfl
    have hD : va_D (kA w0) ([(x 0, .inr (4, [.ref (v 0), .ref (b 0), .ref (o 0), .ref (h 0), .ref (t 0)]))] ++ (HW b cI z ++ (SW v (b 0) cI (bI lk) pe cn rk ++ ([(r, .inl (cL, 1, .inr (.inl go)))])))) := hD.sub [1, 2, 3, 4, 5, 6, 7, 8, 9, 10, 11, 12, 13, 14, 0] (by decide) rfl
    rcases hE with ⟨hT9, rfl⟩ | ⟨hT9, rfl⟩
    · refine vx_catch hown [] ⟨0, 10, 13, 21⟩ [] (htb.trans rfl) (fun z hz => absurd hz List.not_mem_nil) rfl (by decide) (hts (.classLink RL 21 "java/lang/IndexOutOfBoundsException") (List.mem_of_getElem? (i := 1) rfl)) (hF.at (w := .castable eIO eIO) (List.mem_of_getElem? (i := 5) rfl) rfl _) hq1 hq2 hq3 ?_
      refine lv_astore (lv' := [(4, .ref q9), (0, .ref (x 0)), (1, .int ro), (2, .int se), (3, .ref r)]) hx hb dL_ifTaken_13 hl (by decide) rfl (fun ls hl => ?_)
      refine lv_iconst (v := nI 1) hx hb dL_ifTaken_15 (by decide) ?_
      subst hw0
      exact kqw_n hx hb hrt hlocks hT9 (by decide) hP hD hS ⟨Nat.le_of_ble_eq_true rfl, Nat.le_of_ble_eq_true rfl⟩ dL_ifTaken_16
    · exact absurd hT9 (by unfold tSeat; split <;> omega)
  · have hP : va_P D vwCl ([(x 0, .inr (4, [.ref (v 0), .ref (b 0), .ref (o 0), .ref (h 0), .ref (t 0)]))] ++ (HW b cI z ++ (SW v (b 0) cI (bI true) (lkP lk (people z) z pe) (lkP lk ((fun r s => colsW z r s (-1))) z cn) (lkP lk (rkN z) z rk) ++ ([(r, .inl (cL, 1, .inr (.inl go)))])))) H := hP.sub [1, 2, 3, 4, 5, 6, 7, 8, 9, 10, 11, 12, 13, 14, 0] rfl
    have hD : va_D (kA w0) ([(x 0, .inr (4, [.ref (v 0), .ref (b 0), .ref (o 0), .ref (h 0), .ref (t 0)]))] ++ (HW b cI z ++ (SW v (b 0) cI (bI true) (lkP lk (people z) z pe) (lkP lk ((fun r s => colsW z r s (-1))) z cn) (lkP lk (rkN z) z rk) ++ ([(r, .inl (cL, 1, .inr (.inl go)))])))) := hD.sub [1, 2, 3, 4, 5, 6, 7, 8, 9, 10, 11, 12, 13, 14, 0] (by decide) rfl
    refine lv_i2l hx hb dL_ifTaken_8 rfl ?_
    refine kx_last hx hb hK hP hD hS 14 3 rfl rfl (by decide) (by decide) dL_ifTaken_9 (fun H locs hP hD hS => ?_)
    have hP : va_P D vwCl ([(x 0, .inr (4, [.ref (v 0), .ref (b 0), .ref (o 0), .ref (h 0), .ref (t 0)]))] ++ (HW b cI z ++ (SW v (b 0) cI (bI true) (lkP lk (people z) z pe) (lkP lk ((fun r s => colsW z r s (-1))) z cn) (lkP lk (rkN z) z rk) ++ ([(r, .inl (cL, 1, .inr (.inl (vp_updL go 0 ((nI (takThen z (cl ro) (cl se))).toInt64)))))])))) H := hP
    have hD : va_D (kA w0) ([(x 0, .inr (4, [.ref (v 0), .ref (b 0), .ref (o 0), .ref (h 0), .ref (t 0)]))] ++ (HW b cI z ++ (SW v (b 0) cI (bI true) (lkP lk (people z) z pe) (lkP lk ((fun r s => colsW z r s (-1))) z cn) (lkP lk (rkN z) z rk) ++ ([(r, .inl (cL, 1, .inr (.inl (vp_updL go 0 ((nI (takThen z (cl ro) (cl se))).toInt64)))))])))) := hD
    refine lv_goto (tgt := 17) hx hb dL_ifTaken_10 (by decide) ?_
    refine lv_iconst (v := nI 0) hx hb dL_ifTaken_17 (by decide) ?_
    subst hw0
    exact kqw_0 hx hb hrt hlocks hT9 hP hD hS ⟨Nat.le_of_ble_eq_true rfl, Nat.le_of_ble_eq_true rfl⟩ dL_ifTaken_18
