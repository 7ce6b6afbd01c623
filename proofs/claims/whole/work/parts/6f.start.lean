/-! from the start to the loop -/
theorem k_X4_initS : yX4_init.cls ≠ "java/lang/invoke/MethodHandle" ∧ yX4_init.cls ≠ "java/lang/invoke/VarHandle" ∧ (parseMethodDescriptor yX4_init.desc).map (fun d => d.parameters.length) = some 0 := by decide +kernel
theorem k_X5_initS : yX5_init.cls ≠ "java/lang/invoke/MethodHandle" ∧ yX5_init.cls ≠ "java/lang/invoke/VarHandle" ∧ (parseMethodDescriptor yX5_init.desc).map (fun d => d.parameters.length) = some 0 := by decide +kernel
theorem lv_zero : LV z00 false zz0 zz0 zz0 0 (fun _ => z00) zz0 0 zz0 zz0 := ⟨val_z00, lk_false, Nat.zero_le _, fun k hk => absurd hk (Nat.not_lt_zero k), fun k hk => absurd hk (Nat.not_lt_zero k), Nat.zero_le _, fun k hk => absurd hk (Nat.not_lt_zero k), fun k hk => absurd hk (Nat.not_lt_zero k)⟩
theorem st_K {s : State} {d0 d1 d2 d3 d4 d5 : ClassId} {i0 i1 i2 i3 i4 i5 : Nat → Nat} {cI cC cH cL : ClassId} (k0 : u_Kn s RX0 TX0 10 d0 i0) (k1 : u_Kn s RX1 TX1 2 d1 i1) (k2 : u_Kn s RX2 TX2 5 d2 i2) (k3 : u_Kn s RX3 TX3 5 d3 i3) (k4 : u_Kn s RX4 TX4 5 d4 i4) (k5 : u_Kn s RX5 TX5 12 d5 i5)
    (aI : ArrOfT s cI .int ∧ va_RA s cI .int) (aC : ArrOfT s cC .char ∧ va_RA s cC .char) (aH : ArrOfT s cH (.object RX0) ∧ va_RA s cH (.object RX0)) (aL : ArrOfT s cL .long ∧ va_RA s cL .long) :
    va_K (fun k => ([d0, d1, d2, d3, d4, d5] : List ClassId).getD k d0, fun k => ([i0, i1, i2, i3, i4, i5] : List (Nat → Nat)).getD k i0) vwCl (kT cI cC cH cL) s := by
  refine ⟨fun k q h => ?_, fun k q h => ?_⟩
  · rcases k with _ | _ | _ | _ | _ | _ | k
    · cases (show some (RX0, TX0, 10) = some q from h); exact k0
    · cases (show some (RX1, TX1, 2) = some q from h); exact k1
    · cases (show some (RX2, TX2, 5) = some q from h); exact k2
    · cases (show some (RX3, TX3, 5) = some q from h); exact k3
    · cases (show some (RX4, TX4, 5) = some q from h); exact k4
    · cases (show some (RX5, TX5, 12) = some q from h); exact k5
    · cases (show (none : Option vw_C) = some q from h)
  · rcases k with _ | _ | _ | _ | k
    · cases (show some (cI, FieldType.int) = some q from h); exact aI
    · cases (show some (cC, FieldType.char) = some q from h); exact aC
    · cases (show some (cH, FieldType.object RX0) = some q from h); exact aH
    · cases (show some (cL, FieldType.long) = some q from h); exact aL
    · cases (show (none : Option (ClassId × FieldType)) = some q from h)
set_option maxHeartbeats 4000000 in
set_option maxRecDepth 100000 in
theorem whole_start {p : Program} {e : Env} {s : State} {m : MethodId} {below : List Frame} {meth : Method} {c : Code} (l : Launch) (hflags : l.flags = flags0) {b L : Nat} {xs : Nat → Int32} (hL : L ≤ 2048) (C0 : lw_At p s m meth c b L xs) : W p l e room_1 s m #[Value.ref b] below meth c s.heap [] 0 0 (lw_Z below #[Value.ref b] s) (entryFrame m ([Value.ref b] : List Value).toArray 9) := by
  obtain ⟨hx, hb, hr, hml, hown0, hts0, hXs, hbl, hlocks, hgv⟩ := C0
  have hown : s.vm.findClass RL = some m.cls := hown0
  have hs := flat_of_before _ hgv
  have hts : ∀ w ∈ wsL_law, w.before #[Value.ref b] s = true := fun w h => hts0 w (wsL_law_in w h)
  have hst : l.stackTraces = false := by unfold Launch.stackTraces; rw [hflags]; decide
  obtain ⟨d0, i0, k0⟩ := u_known (C := RX0) (T := TX0) (N := 10) (n := 10) hts inlX0 (hts0 _ (tbl_in (List.mem_of_getElem? (i := 32) (by decide +kernel))))
  obtain ⟨d1, i1, k1⟩ := u_known (C := RX1) (T := TX1) (N := 2) (n := 2) hts inlX1 (hts0 _ (tbl_in (List.mem_of_getElem? (i := 101) (by decide +kernel))))
  obtain ⟨d2, i2, k2⟩ := u_known (C := RX2) (T := TX2) (N := 5) (n := 5) hts inlX2 (hts0 _ (tbl_in (List.mem_of_getElem? (i := 118) (by decide +kernel))))
  obtain ⟨d3, i3, k3⟩ := u_known (C := RX3) (T := TX3) (N := 5) (n := 5) hts inlX3 (hts0 _ (tbl_in (List.mem_of_getElem? (i := 26) (by decide +kernel))))
  obtain ⟨d4, i4, k4⟩ := u_known (C := RX4) (T := TX4) (N := 5) (n := 5) hts inlX4 (hts0 _ (tbl_in (List.mem_of_getElem? (i := 18) (by decide +kernel))))
  obtain ⟨d5, i5, k5⟩ := u_known (C := RX5) (T := TX5) (N := 12) (n := 12) hts inlX5 (hts0 _ (tbl_in (List.mem_of_getElem? (i := 801) (by decide +kernel))))
  obtain ⟨cI, aI⟩ := arr_K (ty := .int) (hts0 _ (tbl_in (List.mem_of_getElem? (i := 80) (by decide +kernel))))
  obtain ⟨cC, aC⟩ := arr_K (ty := .char) (hts0 _ (tbl_in (List.mem_of_getElem? (i := 141) (by decide +kernel))))
  obtain ⟨cL, aL⟩ := arr_K (ty := .long) (hts0 _ (tbl_in (List.mem_of_getElem? (i := 1192) (by decide +kernel))))
  obtain ⟨cH, aH⟩ := arr_KO (st_N hts0).1
  have hN : xN s := st_N hts0
  have hF : xF s := st_F hts0 hs
  have hA : ∀ q : Nat, s.heap.size ≤ q → (fun q : Nat => s.heap.size ≤ q) q := fun q h => h
  obtain ⟨y, hXx⟩ := st_X (A := fun q : Nat => s.heap.size ≤ q) hts0 hs (fun a h => by omega)
  have hK := st_K k0 k1 k2 k3 k4 k5 aI aC aH aL
  generalize hDe : ((fun k => ([d0, d1, d2, d3, d4, d5] : List ClassId).getD k d0, fun k => ([i0, i1, i2, i3, i4, i5] : List (Nat → Nat)).getD k i0) : va_G) = D at hK
  have hS : va_S (fun q : Nat => s.heap.size ≤ q) s.heap s.heap [] := va_S.rf
  have hP : va_P D vwCl [] s.heap := fun k q h => by simp at h
  have hD : va_D (fun q : Nat => s.heap.size ≤ q) [] := ⟨fun i j p q h => by simp at h, fun k q h => by simp at h⟩
  have hl := lv_entry [.ref b] (n := 9) (Nat.le_of_ble_eq_true rfl)
  rw [lg_entry_eq]
  generalize (lg_sl [.ref b] ++ List.replicate (9 - (lg_sl [.ref b]).length) Slot.unset).toArray = ls at hl ⊢
  have hl : lv_has ls 9 [(0, .ref b)] := hl
  refine va_new (ci := 4) (fs := [.null, .null, .null, .null, .null]) (C := RX4) (T := TX4) (N := 5) hx hb hts inlX4 tyX4 tyX4_ok hown (hts0 _ (tbl_in (List.mem_of_getElem? (i := 17) (by decide +kernel)))) (hts0 _ (tbl_in (List.mem_of_getElem? (i := 18) (by decide +kernel)))) (hts0 _ (tbl_in (List.mem_of_getElem? (i := 1) (by decide +kernel)))) hK hP hD hS hA rfl (fun j hj => by rcases (show j = 0 ∨ j = 1 ∨ j = 2 ∨ j = 3 ∨ j = 4 by omega) with rfl | rfl | rfl | rfl | rfl <;> rfl) (Nat.le_of_ble_eq_true rfl) (Nat.le_of_ble_eq_true rfl) dL_law_0 (fun q0_1 H hP hD hS => ?_)
  have hP : va_P D vwCl ([(q0_1, .inr (4, [.null, .null, .null, .null, .null]))]) H := hP
  have hD : va_D (fun q : Nat => s.heap.size ≤ q) ([(q0_1, .inr (4, [.null, .null, .null, .null, .null]))]) := hD
  refine W.widen (k := 1) (n := 5) (Nat.le_of_ble_eq_true rfl) (Nat.le_of_ble_eq_true rfl) ?_
  refine lv_dup hx hb dL_law_3 rfl ?_
  refine kc_I (As := []) (rest := [.ref q0_1]) (own := RL) ⟨hx, hb, hml, hown, hts⟩ (c_X4_init l D cI cC cH cL _ q0_1) (cwI 0 hts ggL_law_X4_init rfl rfl rfl (hts0 _ (tbl_in (List.mem_of_getElem? (i := 1) (by decide +kernel)))) (hts0 _ (tbl_in (List.mem_of_getElem? (i := 19) (by decide +kernel)))) (hts0 _ (tbl_in (List.mem_of_getElem? (i := 20) (by decide +kernel)))) rfl k_X4_initS ⟨Nat.le_of_ble_eq_true rfl, Nat.le_of_ble_eq_true rfl⟩) hP hD hK hN hS hA [0] [] rfl rfl (wr := []) rfl (by decide) (by decide) (by decide) rfl hl.1 rfl (Nat.le_of_ble_eq_true rfl) dL_law_4 ⟨Nat.le_of_ble_eq_true rfl, Nat.le_of_ble_eq_true rfl⟩ (fun w1 H locs hB hP hD hS => ?_)
  obtain ⟨x, bb, v, u, o, h, t, kb, rfl, rfl⟩ := hB
  have hl : lv_has ls 9 [(0, .ref b)] := hl
  have hP : va_P D vwCl ([(x 0, .inr (4, [.ref (v 0), .ref (bb 0), .ref (o 0), .ref (h 0), .ref (t 0)]))] ++ (HW bb cI z00 ++ (SW v (bb 0) cI (nI 0) zz0 zz0 zz0 ++ (HW u cI z00 ++ (SW o (u 0) cI (nI 0) zz0 zz0 zz0 ++ (KW h kb cI cH 0 (fun _ => z00) ++ TW t cC cI zz0 (nI 0) zz0 (nI 0) (nI 0))))))) H := hP
  have hD : va_D (fun q : Nat => s.heap.size ≤ q) ([(x 0, .inr (4, [.ref (v 0), .ref (bb 0), .ref (o 0), .ref (h 0), .ref (t 0)]))] ++ (HW bb cI z00 ++ (SW v (bb 0) cI (nI 0) zz0 zz0 zz0 ++ (HW u cI z00 ++ (SW o (u 0) cI (nI 0) zz0 zz0 zz0 ++ (KW h kb cI cH 0 (fun _ => z00) ++ TW t cC cI zz0 (nI 0) zz0 (nI 0) (nI 0))))))) := hD
  refine W.widen (k := 86) (n := 1389) (Nat.le_of_ble_eq_true rfl) (Nat.le_of_ble_eq_true rfl) ?_
  refine lv_astore_n (lv' := [(1, .ref (x 0)), (0, .ref b)]) hx hb dL_law_7 rfl hl (by decide) rfl (fun ls hl => ?_)
  refine va_new (ci := 5) (fs := [.null, .int 0, .null, .int 0, .null, .int 0, .null, .int 0, .int 0, .int 0, .null, .long 0]) (C := RX5) (T := TX5) (N := 12) hx hb hts inlX5 tyX5 tyX5_ok hown (hts0 _ (tbl_in (List.mem_of_getElem? (i := 800) (by decide +kernel)))) (hts0 _ (tbl_in (List.mem_of_getElem? (i := 801) (by decide +kernel)))) (hts0 _ (tbl_in (List.mem_of_getElem? (i := 6) (by decide +kernel)))) hK hP hD hS hA rfl (fun j hj => by rcases (show j = 0 ∨ j = 1 ∨ j = 2 ∨ j = 3 ∨ j = 4 ∨ j = 5 ∨ j = 6 ∨ j = 7 ∨ j = 8 ∨ j = 9 ∨ j = 10 ∨ j = 11 by omega) with rfl | rfl | rfl | rfl | rfl | rfl | rfl | rfl | rfl | rfl | rfl | rfl <;> rfl) (Nat.le_of_ble_eq_true rfl) (Nat.le_of_ble_eq_true rfl) dL_law_8 (fun q8_3 H hP hD hS => ?_)
  have hP : va_P D vwCl ([(x 0, .inr (4, [.ref (v 0), .ref (bb 0), .ref (o 0), .ref (h 0), .ref (t 0)]))] ++ (HW bb cI z00 ++ (SW v (bb 0) cI (nI 0) zz0 zz0 zz0 ++ (HW u cI z00 ++ (SW o (u 0) cI (nI 0) zz0 zz0 zz0 ++ (KW h kb cI cH 0 (fun _ => z00) ++ TW t cC cI zz0 (nI 0) zz0 (nI 0) (nI 0)))))) ++ ([(q8_3, .inr (5, [.null, .int 0, .null, .int 0, .null, .int 0, .null, .int 0, .int 0, .int 0, .null, .long 0]))])) H := hP
  have hD : va_D (fun q : Nat => s.heap.size ≤ q) ([(x 0, .inr (4, [.ref (v 0), .ref (bb 0), .ref (o 0), .ref (h 0), .ref (t 0)]))] ++ (HW bb cI z00 ++ (SW v (bb 0) cI (nI 0) zz0 zz0 zz0 ++ (HW u cI z00 ++ (SW o (u 0) cI (nI 0) zz0 zz0 zz0 ++ (KW h kb cI cH 0 (fun _ => z00) ++ TW t cC cI zz0 (nI 0) zz0 (nI 0) (nI 0)))))) ++ ([(q8_3, .inr (5, [.null, .int 0, .null, .int 0, .null, .int 0, .null, .int 0, .int 0, .int 0, .null, .long 0]))])) := hD
  refine W.widen (k := 87) (n := 1401) (Nat.le_of_ble_eq_true rfl) (Nat.le_of_ble_eq_true rfl) ?_
  refine lv_dup hx hb dL_law_11 rfl ?_
  refine kc_I (As := []) (rest := [.ref q8_3]) (own := RL) ⟨hx, hb, hml, hown, hts⟩ (c_X5_init l D cI cC cH cL _ q8_3) (cwI 0 hts ggL_law_X5_init rfl rfl rfl (hts0 _ (tbl_in (List.mem_of_getElem? (i := 6) (by decide +kernel)))) (hts0 _ (tbl_in (List.mem_of_getElem? (i := 802) (by decide +kernel)))) (hts0 _ (tbl_in (List.mem_of_getElem? (i := 803) (by decide +kernel)))) rfl k_X5_initS ⟨Nat.le_of_ble_eq_true rfl, Nat.le_of_ble_eq_true rfl⟩) hP hD hK hN hS hA [86] (0 :: 1 :: 2 :: 3 :: 4 :: 5 :: 6 :: 7 :: 8 :: 9 :: 10 :: 11 :: 12 :: 13 :: 14 :: 15 :: 16 :: 17 :: 18 :: 19 :: 20 :: 21 :: 22 :: 23 :: 24 :: 25 :: 26 :: 27 :: 28 :: 29 :: 30 :: 31 :: 32 :: 33 :: 34 :: 35 :: 36 :: 37 :: 38 :: 39 :: 40 :: 41 :: 42 :: 43 :: 44 :: 45 :: 46 :: 47 :: 48 :: 49 :: 50 :: 51 :: 52 :: 53 :: 54 :: 55 :: 56 :: 57 :: 58 :: 59 :: 60 :: 61 :: 62 :: 63 :: 64 :: 65 :: 66 :: 67 :: 68 :: 69 :: 70 :: 71 :: 72 :: 73 :: 74 :: 75 :: 76 :: 77 :: 78 :: 79 :: 80 :: 81 :: 82 :: 83 :: 84 :: 85 :: []) rfl rfl (wr := [(x 0, .inr (4, [.ref (v 0), .ref (bb 0), .ref (o 0), .ref (h 0), .ref (t 0)]))] ++ (HW bb cI z00 ++ (SW v (bb 0) cI (nI 0) zz0 zz0 zz0 ++ (HW u cI z00 ++ (SW o (u 0) cI (nI 0) zz0 zz0 zz0 ++ (KW h kb cI cH 0 (fun _ => z00) ++ TW t cC cI zz0 (nI 0) zz0 (nI 0) (nI 0))))))) rfl (by decide) (by decide) (by decide) rfl hl.1 rfl (Nat.le_of_ble_eq_true rfl) dL_law_12 ⟨Nat.le_of_ble_eq_true rfl, Nat.le_of_ble_eq_true rfl⟩ (fun w1 H locs hB hP hD hS => ?_)
  obtain ⟨a, rfl, rfl⟩ := hB
  have hl : lv_has ls 9 [(1, .ref (x 0)), (0, .ref b)] := hl
  have hP : va_P D vwCl ([(x 0, .inr (4, [.ref (v 0), .ref (bb 0), .ref (o 0), .ref (h 0), .ref (t 0)]))] ++ (HW bb cI z00 ++ (SW v (bb 0) cI (nI 0) zz0 zz0 zz0 ++ (HW u cI z00 ++ (SW o (u 0) cI (nI 0) zz0 zz0 zz0 ++ (KW h kb cI cH 0 (fun _ => z00) ++ TW t cC cI zz0 (nI 0) zz0 (nI 0) (nI 0)))))) ++ (MW a cI z00 0 zz0 0 zz0 0 zz0 0 0 0 zz0 0)) H := hP
  have hD : va_D (fun q : Nat => s.heap.size ≤ q) ([(x 0, .inr (4, [.ref (v 0), .ref (bb 0), .ref (o 0), .ref (h 0), .ref (t 0)]))] ++ (HW bb cI z00 ++ (SW v (bb 0) cI (nI 0) zz0 zz0 zz0 ++ (HW u cI z00 ++ (SW o (u 0) cI (nI 0) zz0 zz0 zz0 ++ (KW h kb cI cH 0 (fun _ => z00) ++ TW t cC cI zz0 (nI 0) zz0 (nI 0) (nI 0)))))) ++ (MW a cI z00 0 zz0 0 zz0 0 zz0 0 0 0 zz0 0)) := hD
  refine W.widen (k := 92) (n := 2013) (Nat.le_of_ble_eq_true rfl) (Nat.le_of_ble_eq_true rfl) ?_
  refine lv_astore_n (lv' := [(2, .ref (a 0)), (1, .ref (x 0)), (0, .ref b)]) hx hb dL_law_15 rfl hl (by decide) rfl (fun ls hl => ?_)
  refine lv_iconst (v := nI 1) hx hb dL_law_16 (by decide) ?_
  refine kx_newa (atype := .long) (ty := .long) (a0 := (1, .inr (.inl (fun _ => 0)))) hx hb (hts0 _ (tbl_in (List.mem_of_getElem? (i := 1192) (by decide +kernel)))) rfl hK hP hD hS hA 3 rfl (fun h => h) rfl (nI_pos (by decide)) (nI_clamp (by decide)) (Nat.le_of_ble_eq_true rfl) (Nat.le_of_ble_eq_true rfl) (Nat.le_of_ble_eq_true rfl) dL_law_17 (fun q17_5 H hP hD hS => ?_)
  have hP : va_P D vwCl ([(x 0, .inr (4, [.ref (v 0), .ref (bb 0), .ref (o 0), .ref (h 0), .ref (t 0)]))] ++ (HW bb cI z00 ++ (SW v (bb 0) cI (nI 0) zz0 zz0 zz0 ++ (HW u cI z00 ++ (SW o (u 0) cI (nI 0) zz0 zz0 zz0 ++ (KW h kb cI cH 0 (fun _ => z00) ++ TW t cC cI zz0 (nI 0) zz0 (nI 0) (nI 0)))))) ++ (MW a cI z00 0 zz0 0 zz0 0 zz0 0 0 0 zz0 0 ++ ([(q17_5, .inl (cL, 1, .inr (.inl (fun _ => 0))))]))) H := hP
  have hD : va_D (fun q : Nat => s.heap.size ≤ q) ([(x 0, .inr (4, [.ref (v 0), .ref (bb 0), .ref (o 0), .ref (h 0), .ref (t 0)]))] ++ (HW bb cI z00 ++ (SW v (bb 0) cI (nI 0) zz0 zz0 zz0 ++ (HW u cI z00 ++ (SW o (u 0) cI (nI 0) zz0 zz0 zz0 ++ (KW h kb cI cH 0 (fun _ => z00) ++ TW t cC cI zz0 (nI 0) zz0 (nI 0) (nI 0)))))) ++ (MW a cI z00 0 zz0 0 zz0 0 zz0 0 0 0 zz0 0 ++ ([(q17_5, .inl (cL, 1, .inr (.inl (fun _ => 0))))]))) := hD
  refine W.widen (k := 93) (n := 2014) (Nat.le_of_ble_eq_true rfl) (Nat.le_of_ble_eq_true rfl) ?_
  refine lv_astore_n (lv' := [(3, .ref q17_5), (2, .ref (a 0)), (1, .ref (x 0)), (0, .ref b)]) hx hb dL_law_19 rfl hl (by decide) rfl (fun ls hl => ?_)
  refine lv_iconst (v := nI 0) hx hb dL_law_20 (by decide) ?_
  refine lv_istore (lv' := [(4, .int (nI 0)), (3, .ref q17_5), (2, .ref (a 0)), (1, .ref (x 0)), (0, .ref b)]) hx hb dL_law_21 hl (by decide) rfl (fun ls hl => ?_)
  have hP : va_P D vwCl (LW x bb v u o h t a q17_5 cI cC cH cL z00 false zz0 zz0 zz0 z00 false zz0 zz0 zz0 kb 0 (fun _ => z00) zz0 zz0 0 0 false (fun _ => 0) zz0 zz0 0 zz0 0 0 0 zz0 0) H := hP.sub (0 :: 1 :: 2 :: 3 :: 4 :: 5 :: 6 :: 7 :: 8 :: 9 :: 10 :: 11 :: 12 :: 13 :: 14 :: 15 :: 16 :: 17 :: 18 :: 19 :: 20 :: 21 :: 22 :: 23 :: 24 :: 25 :: 26 :: 27 :: 28 :: 29 :: 30 :: 31 :: 32 :: 33 :: 34 :: 35 :: 36 :: 37 :: 38 :: 39 :: 40 :: 41 :: 42 :: 43 :: 44 :: 45 :: 46 :: 47 :: 48 :: 49 :: 50 :: 51 :: 52 :: 53 :: 54 :: 55 :: 56 :: 57 :: 58 :: 59 :: 60 :: 61 :: 62 :: 63 :: 64 :: 65 :: 66 :: 67 :: 68 :: 69 :: 70 :: 71 :: 72 :: 73 :: 74 :: 75 :: 76 :: 77 :: 78 :: 79 :: 80 :: 81 :: 82 :: 83 :: 84 :: 85 :: 92 :: 86 :: 87 :: 88 :: 89 :: 90 :: 91 :: []) rfl
  have hD : va_D (fun q : Nat => s.heap.size ≤ q) (LW x bb v u o h t a q17_5 cI cC cH cL z00 false zz0 zz0 zz0 z00 false zz0 zz0 zz0 kb 0 (fun _ => z00) zz0 zz0 0 0 false (fun _ => 0) zz0 zz0 0 zz0 0 0 0 zz0 0) := hD.sub (0 :: 1 :: 2 :: 3 :: 4 :: 5 :: 6 :: 7 :: 8 :: 9 :: 10 :: 11 :: 12 :: 13 :: 14 :: 15 :: 16 :: 17 :: 18 :: 19 :: 20 :: 21 :: 22 :: 23 :: 24 :: 25 :: 26 :: 27 :: 28 :: 29 :: 30 :: 31 :: 32 :: 33 :: 34 :: 35 :: 36 :: 37 :: 38 :: 39 :: 40 :: 41 :: 42 :: 43 :: 44 :: 45 :: 46 :: 47 :: 48 :: 49 :: 50 :: 51 :: 52 :: 53 :: 54 :: 55 :: 56 :: 57 :: 58 :: 59 :: 60 :: 61 :: 62 :: 63 :: 64 :: 65 :: 66 :: 67 :: 68 :: 69 :: 70 :: 71 :: 72 :: 73 :: 74 :: 75 :: 76 :: 77 :: 78 :: 79 :: 80 :: 81 :: 82 :: 83 :: 84 :: 85 :: 92 :: 86 :: 87 :: 88 :: 89 :: 90 :: 91 :: []) (by decide) rfl
  refine W.widen (k := 200) (n := 2500) (Nat.le_of_ble_eq_true rfl) (Nat.le_of_ble_eq_true rfl) ?_
  exact law_loop (L := L) (xs := xs) (y := y) ⟨hx, hb, hml, hown, hts, hXs, hbl, fun h => Nat.lt_irrefl _ (Nat.lt_of_lt_of_le hbl h), hst, hK, hXx, hF, hL⟩ hr hlocks (L + 1) 0 (Nat.zero_le _) (by omega) H _ _ ⟨z00, false, zz0, zz0, zz0, z00, false, zz0, zz0, zz0, kb, 0, (fun _ => z00), zz0, zz0, 0, 0, false, (fun _ => 0), zz0, zz0, 0, zz0, 0, 0, 0, zz0, 0, lv_zero, hP, hD⟩ hS (lv_sub hl [4, 3, 2, 1, 0] rfl)
set_option maxHeartbeats 4000000 in
theorem lw_walk (l : Launch) (hflags : l.flags = flags0) (b : Addr) (xs : List Int32) : MetFree l x (headSpec (Jvm.Cond.code x code maxLocals ret :: tables_1) room_1) (lw_P b xs) (fun _ _ _ _ _ => True) lw_Q := by
  refine MetFree.of_bodyS (code := code) (maxLocals := maxLocals) (ret := ret) (by decide) ?_ ?_
  · intro args s m h hn
    obtain ⟨meth, c, h1, h2, h3, h4, h5, h6, -, -⟩ := Cond.code_spec hn (atoms_spec (ws := Jvm.Cond.code x code maxLocals ret :: tables_1) h _ List.mem_cons_self)
    exact ⟨meth, c, h1, h2, h3, h4, h5, h6⟩
  · intro p e s m args below meth c s₁ B hml0 hP _
    obtain ⟨rfl, hx, hbd, hgv⟩ := hP
    obtain ⟨scr, harrAt, hlist, hof, hsmall⟩ := hx
    obtain ⟨hcb, hkn, -, -⟩ := State.arrayAt?_spec harrAt
    have hown : s.vm.findClass R_law = some m.cls := findClass_of_methodNamed B.named
    have hts0 : ∀ c ∈ (Jvm.Cond.code x code maxLocals ret :: tables_1), c.before #[Value.ref b] s = true := atoms_spec (ws := Jvm.Cond.code x code maxLocals ret :: tables_1) B.pre
    have hts : ∀ w ∈ lw_tbl, w.before #[Value.ref b] s = true := k2_hts_sels lw_privs (fun w hw => hts0 w (List.mem_cons_of_mem _ hw)) lw_privs_ok
    have hml : c.maxLocals = 9 := B.maxLocals_eq (hts0 _ List.mem_cons_self)
    have X₀ : Stand p l e room_1 s m #[Value.ref b] below meth c s₁ [] 0 0 := Stand.of_body B
    have hh0 : s₁.heap = s.heap := by rw [B.state]; rfl
    have hsz : scr.slots.size = xs.length := by rw [← Array.length_toList, hlist, List.length_map]
    have hval : ∀ j : Nat, j < xs.length → scr.slots[j]? = some (.int (xs.getD j 0)) := fun j hj => by
      rw [← Array.getElem?_toList, hlist]
      simp [hj]
    have hbl : b < s.heap.size := (Array.getElem?_eq_some_iff.mp hcb).1
    have hX : va_X b xs.length (fun j => xs.getD j 0) s s.heap := ⟨scr, hcb, hof, hkn, hsz, hval⟩
    have K : W p l e room_1 s m #[Value.ref b] below meth c s₁.heap [] 0 0 (lw_Z below #[Value.ref b] s) (entryFrame m ([Value.ref b] : List Value).toArray 9) := by
      rw [hh0]
      exact whole_start l hflags hbd ⟨B.exec, B.bytes, B.returns, hml, hown, hts, hX, hbl, B.notSynchronized, hgv⟩
    obtain ⟨t, a1, o, b1, b2, b3⟩ := K s₁ rfl X₀
    exact ⟨t, o, a1, b1, b2, b3⟩
theorem lw_pre_spec {args : Array Value} {s : State} (h : (Jvm.Cond.and given_1 narrow_1).before args s = true) (hr : rest_1_c.before args s = true) : ∃ (b : Addr) (xs : List Int32), lw_P b xs args s := by
  have hs := flat_of_before _ h
  have hq := flat_of_before _ hr
  have hc : (Cond.count 1).before args s = true := hs _ (by decide +kernel)
  have harr : (Cond.arrayOf (.arg 0) .int).before args s = true := hs _ (by decide +kernel)
  have hle : (Cond.le (.length (.arg 0)) (.int 2048)).before args s = true := hs _ (by decide +kernel)
  have hlen : (Cond.isInt (.length (.arg 0))).before args s = true := hq _ (by decide +kernel)
  have hall : (Cond.all (.arg 0) (.isInt (.elem (.arg 0) (.index 0)))).before args s = true := hq _ (by decide +kernel)
  obtain ⟨b, xs, hb, hx⟩ := State.ints_of_pre rfl harr hlen hall
  have hsm : xs.length < 2 ^ 31 := hx.choose_spec.2.2.2
  have hev : (Term.length (.arg 0)).eval args s none [] s = some (.int xs.length.toInt32) := hx.length_eval hb
  have hv := Cond.le_ints hev (show (Term.int 2048).eval args s none [] s = some (.int 2048) from rfl)
  have hd : xs.length.toInt32 ≤ 2048 := by
    simpa [Cond.before, Cond.holds, hv] using hle
  have hN : xs.length ≤ 2048 := (Int32.ofNat_le_ofNat hsm (by decide)).mp (show Int32.ofNat xs.length ≤ Int32.ofNat 2048 from hd)
  exact ⟨b, xs, Cond.one_arg hc (show args[0]? = some (.ref b) from hb), hx, hN, h⟩
theorem lw_comes (l : Launch) (hflags : l.flags = flags0) : Comes l x (Jvm.Cond.code x code maxLocals ret :: tables_1) room_1 (fun tb e args s => Calls_1 tb e args s ∧ rest_1 tb e args s ∧ Pre_1 tb e args s)
    (fun _ _ args s o t => lw_Q args s o t) := by
  intro p e ha hc hk s m args below hf hfit hheap happ hpre
  obtain ⟨b, xs, hP⟩ := lw_pre_spec hpre.2.2 hpre.2.1
  obtain ⟨k, o, h1, h2, h3, hQ⟩ := lw_walk l hflags b xs p e ha hc hk s m args below hf ((Spec.applies_iff_loose hf).mp happ).1 hP trivial
  exact ⟨k, o, h1, h2, h3, hQ⟩
theorem lw_frame {s t : State} {o : Outcome} {args : Array Value} (h : State.butDraws s t lw_cs (fun t1 => Framed s o t1 [] 601024 7293034)) :
    State.butDraws s t [Jvm.Choice.named "NaN.bits"] (fun t1 => Framed s o t1 (fieldLocs frame_1_writes args s ++ arrayLocs frame_1_arrays args s ++ staticLocs frame_1_statics s) 601024 7293034) := h
theorem lw_limb (L : Cond) (hL : ∀ (args : Array Value) (s t : State), L.after args s (.returned (some (.int 1))) t = true) :
    ArmFor flags0 classFile x code maxLocals ret World_1 tables_1 room_1 Calls_1 rest_1 Pre_1
      (fun tb e a s o t => postC L tb e a s o t ∧ State.butDraws s t [Jvm.Choice.named "NaN.bits"] (fun t1 => Framed s o t1 (fieldLocs frame_1_writes a s ++ arrayLocs frame_1_arrays a s ++ staticLocs frame_1_statics s) 601024 7293034)) := by
  intro l hflags _ _ p e ha hc hk s m args below hf hfit hheap happ hpre
  obtain ⟨k, o, h1, h2, h3, rfl, hF⟩ := lw_comes l hflags p e ha hc hk s m args below hf hfit hheap happ hpre
  exact ⟨k, _, h1, h2, h3, hL args s _, lw_frame hF⟩
theorem i_vc : Claimed_1_1 ∧ Claimed_1_2 := ⟨lw_limb limb_1_1 (fun args s t => by simp [limb_1_1, Cond.after, Cond.holds, Cond.value]), lw_limb limb_1_2 (fun args s t => Cond.after_iff.mpr (by
  first | (rw [show limb_1_2 = Cond.eq .result (.int 1) from rfl, Cond.eq_ints (x := 1) (y := 1) rfl rfl]; simp; done) | (simp [limb_1_2, Cond.value, Term.eval]; done)))⟩
