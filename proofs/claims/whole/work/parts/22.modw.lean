set_option maxRecDepth 20000 in
theorem iX5_put_5 : ∀ w ∈ wsX50, w ∈ wsX5_put := by decide +kernel
set_option maxHeartbeats 4000000 in
set_option maxRecDepth 100000 in
theorem c_X5_put (l : Launch) (D : va_G) (cI cC cH cL : ClassId) (a : Nat → Nat) (z zh tx pa wy : ZZ) (st le th rd nu pt : Int32) (za : Int64) (r0 : Nat) (wh : Nat) (v0 : Int32) (hi : 5 + 4 * r0 + wh < 57) : Met l yX5_put wsX5_put ({ frames := 0, cells := 0, slots := 0, locals := 0 }) (kw [.ref (a 0), .int (nI r0), .int (nI wh), .int v0] D (MW a cI z st zh le tx th pa rd nu pt wy za) (kT cI cC cH cL)) (kq D (MW a cI z st zh le tx th pa rd nu pt wy za) (MW a cI (upd z (5 + 4 * r0 + wh) v0) st zh le tx th pa rd nu pt wy za) (.returned none)) 0 0 (kA (MW a cI z st zh le tx th pa rd nu pt wy za)) := by
  refine Met.ofW (cc := cX5_put) (maxL := 4) (ret := none) (by decide) rfl ?_
  intro p e s m args below meth c s₁ B hml hv
  obtain ⟨rfl, hP, hK, hD0⟩ := hv
  have hx := B.exec
  have hb := B.bytes
  have hrt := B.returns
  have hts := atoms_spec (ws := wsX5_put) B.pre
  have hown : s.vm.findClass RX5 = some m.cls := findClass_of_methodNamed B.named
  have hlocks := B.notSynchronized
  have hl := lv_entry ([.ref (a 0), .int (nI r0), .int (nI wh), .int v0]) (n := 4) (Nat.le_of_ble_eq_true rfl)
  rw [lg_entry_eq]
  generalize (lg_sl ([.ref (a 0), .int (nI r0), .int (nI wh), .int v0]) ++ List.replicate (4 - (lg_sl ([.ref (a 0), .int (nI r0), .int (nI wh), .int v0])).length) Slot.unset).toArray = ls at hl ⊢
  have hl : lv_has ls 4 [(0, .ref (a 0)), (1, .int (nI r0)), (2, .int (nI wh)), (3, .int v0)] := hl
  have hD := kA_self hD0
  obtain ⟨w0, hw0⟩ : ∃ w : va_W, w = MW a cI z st zh le tx th pa rd nu pt wy za := ⟨_, rfl⟩
  have hD : va_D (kA w0) (MW a cI z st zh le tx th pa rd nu pt wy za) := by rw [hw0]; exact hD
  have hS : va_S (kA w0) s.heap s.heap [] := va_S.rf
  rw [show kA (MW a cI z st zh le tx th pa rd nu pt wy za) = kA w0 from by rw [hw0], show kq D (MW a cI z st zh le tx th pa rd nu pt wy za) = kq D w0 from by rw [hw0]]
  have hP : va_P D vwCl (MW a cI z st zh le tx th pa rd nu pt wy za) s.heap := hP
  refine lv_aload_n hx hb dX5_put_0 rfl (lv_at hl 0 rfl) ?_
  refine va_get (D := D) (ci := 5) (v := .ref (a 1)) (C := RX5) (T := TX5) (N := 12) hx hb hts iX5_put_5 hown hK hP 0 rfl rfl 0 (by decide) (hts (.fieldLink RX5 7 "HallSightsModel" "z" "[I") (List.mem_of_getElem? (i := 1) rfl)) (fun _ h9 => h9) rfl dX5_put_1 ?_
  refine lv_iconst (v := nI 5) hx hb dX5_put_4 (by decide) ?_
  refine lv_iconst (v := nI 4) hx hb dX5_put_5 (by decide) ?_
  refine lv_iload_n hx hb dX5_put_6 rfl (lv_at hl 1 rfl) ?_
  refine kx_imul hx hb dX5_put_7 ?_
  refine kx_iadd hx hb dX5_put_8 ?_
  refine lv_iload_n hx hb dX5_put_9 rfl (lv_at hl 2 rfl) ?_
  refine kx_iadd hx hb dX5_put_10 ?_
  refine lv_iload_n hx hb dX5_put_11 rfl (lv_at hl 3 rfl) ?_
  refine kx_iast hx hb hK hP hD hS 1 0 rfl rfl (by omega) (by decide) dX5_put_12 (fun H locs hP hD hS => ?_)
  have hP : va_P D vwCl (MW a cI (upd z ((5 + (4 * r0)) + wh) v0) st zh le tx th pa rd nu pt wy za) H := hP
  have hD : va_D (kA w0) (MW a cI (upd z ((5 + (4 * r0)) + wh) v0) st zh le tx th pa rd nu pt wy za) := hD
  have ec_z_0 : ((upd z ((5 + (4 * r0)) + wh) v0) : ZZ) = (upd z (5 + 4 * r0 + wh) v0) := by first | rfl | omega | (simp [Int32.not_lt, Int32.not_le]; done) | (simp [Int32.not_lt, Int32.not_le]; omega)
  have ew_1 : (MW a cI (upd z ((5 + (4 * r0)) + wh) v0) st zh le tx th pa rd nu pt wy za : va_W) = (MW a cI (upd z (5 + 4 * r0 + wh) v0) st zh le tx th pa rd nu pt wy za) := mw_c ec_z_0 rfl rfl rfl rfl rfl rfl rfl rfl rfl rfl rfl
  rw [ew_1] at hP hD
  subst hw0
  exact kq_vret hx hb hrt hlocks hP hD hS dX5_put_13
set_option maxRecDepth 20000 in
theorem iX5_mix_5 : ∀ w ∈ wsX50, w ∈ wsX5_mix := by decide +kernel
set_option maxHeartbeats 4000000 in
set_option maxRecDepth 100000 in
theorem c_X5_mix (l : Launch) (D : va_G) (cI cC cH cL : ClassId) (a : Nat → Nat) (z zh tx pa wy : ZZ) (st le th rd nu pt : Int32) (za : Int64) (v0 : Int64)  : Met l yX5_mix wsX5_mix ({ frames := 0, cells := 0, slots := 0, locals := 0 }) (kw [.ref (a 0), .long v0] D (MW a cI z st zh le tx th pa rd nu pt wy za) (kT cI cC cH cL)) (kq D (MW a cI z st zh le tx th pa rd nu pt wy za) (MW a cI z st zh le tx th pa rd nu pt wy (mixL za v0)) (.returned none)) 0 0 (kA (MW a cI z st zh le tx th pa rd nu pt wy za)) := by
  refine Met.ofW (cc := cX5_mix) (maxL := 3) (ret := none) (by decide) rfl ?_
  intro p e s m args below meth c s₁ B hml hv
  obtain ⟨rfl, hP, hK, hD0⟩ := hv
  have hx := B.exec
  have hb := B.bytes
  have hrt := B.returns
  have hts := atoms_spec (ws := wsX5_mix) B.pre
  have hown : s.vm.findClass RX5 = some m.cls := findClass_of_methodNamed B.named
  have hlocks := B.notSynchronized
  have hl := lv_entry ([.ref (a 0), .long v0]) (n := 3) (Nat.le_of_ble_eq_true rfl)
  rw [lg_entry_eq]
  generalize (lg_sl ([.ref (a 0), .long v0]) ++ List.replicate (3 - (lg_sl ([.ref (a 0), .long v0])).length) Slot.unset).toArray = ls at hl ⊢
  have hl : lv_has ls 3 [(0, .ref (a 0)), (1, .long v0)] := hl
  have hD := kA_self hD0
  obtain ⟨w0, hw0⟩ : ∃ w : va_W, w = MW a cI z st zh le tx th pa rd nu pt wy za := ⟨_, rfl⟩
  have hD : va_D (kA w0) (MW a cI z st zh le tx th pa rd nu pt wy za) := by rw [hw0]; exact hD
  have hS : va_S (kA w0) s.heap s.heap [] := va_S.rf
  rw [show kA (MW a cI z st zh le tx th pa rd nu pt wy za) = kA w0 from by rw [hw0], show kq D (MW a cI z st zh le tx th pa rd nu pt wy za) = kq D w0 from by rw [hw0]]
  have hP : va_P D vwCl (MW a cI z st zh le tx th pa rd nu pt wy za) s.heap := hP
  refine lv_aload_n hx hb dX5_mix_0 rfl (lv_at hl 0 rfl) ?_
  refine lv_ldc2 (v := 31) hx hb hown (hts (.constantLong RX5 219 (31)) (List.mem_of_getElem? (i := 1) rfl)) dX5_mix_1 ?_
  refine lv_aload_n hx hb dX5_mix_4 rfl (lv_at hl 0 rfl) ?_
  refine va_get (D := D) (ci := 5) (v := .long za) (C := RX5) (T := TX5) (N := 12) hx hb hts iX5_mix_5 hown hK hP 0 rfl rfl 11 (by decide) (hts (.fieldLink RX5 221 "HallSightsModel" "hash" "J") (List.mem_of_getElem? (i := 2) rfl)) (fun _ h9 => h9) rfl dX5_mix_5 ?_
  refine lv_lmul hx hb dX5_mix_8 ?_
  refine lv_lload_n hx hb dX5_mix_9 rfl (lv_at hl 1 rfl) ?_
  refine lv_ladd hx hb dX5_mix_10 ?_
  refine va_put (D := D) (ci := 5) (v := .long ((31 * za) + v0)) (ty := .long) (C := RX5) (T := TX5) (N := 12) hx hb hts iX5_mix_5 tyX5 tyX5_ok nmX5 hown hK hP hD hS 0 rfl rfl 11 (by decide) (hts (.fieldLink RX5 221 "HallSightsModel" "hash" "J") (List.mem_of_getElem? (i := 2) rfl)) (fun _ h9 => h9) rfl (by decide +kernel) rfl rfl (Nat.le_of_ble_eq_true rfl) dX5_mix_11 (fun H locs hP hD hS => ?_)
  have hP : va_P D vwCl (MW a cI z st zh le tx th pa rd nu pt wy ((31 * za) + v0)) H := hP
  have hD : va_D (kA w0) (MW a cI z st zh le tx th pa rd nu pt wy ((31 * za) + v0)) := hD
  have ec_za_0 : (((31 * za) + v0) : Int64) = (mixL za v0) := by first | rfl | omega | (simp [mixL, Int32.not_lt, Int32.not_le]; done) | (simp [mixL, Int32.not_lt, Int32.not_le]; omega)
  have ew_1 : (MW a cI z st zh le tx th pa rd nu pt wy ((31 * za) + v0) : va_W) = (MW a cI z st zh le tx th pa rd nu pt wy (mixL za v0)) := mw_c rfl rfl rfl rfl rfl rfl rfl rfl rfl rfl rfl ec_za_0
  rw [ew_1] at hP hD
  subst hw0
  exact kq_vret hx hb hrt hlocks hP hD hS dX5_mix_14
set_option maxRecDepth 20000 in
theorem iX5_layWays_5 : ∀ w ∈ wsX50, w ∈ wsX5_layWays := by decide +kernel
set_option maxHeartbeats 4000000 in
set_option maxRecDepth 100000 in
theorem c_X5_layWays (l : Launch) (D : va_G) (cI cC cH cL : ClassId) (a : Nat → Nat) (z zh tx pa wy : ZZ) (st le th rd nu pt : Int32) (za : Int64)  (hw : WF z) : Met l yX5_layWays wsX5_layWays ({ frames := 5, cells := 0, slots := 0, locals := 118 }) (kw [.ref (a 0)] D (MW a cI z st zh le tx th pa rd nu pt wy za) (kT cI cC cH cL)) (kq D (MW a cI z st zh le tx th pa rd nu pt wy za) (MW a cI z st zh le tx th pa rd nu pt (layF z wy) za) (.returned none)) 0 0 (kA (MW a cI z st zh le tx th pa rd nu pt wy za)) := by
  refine Met.ofW (cc := cX5_layWays) (maxL := 3) (ret := none) (by decide) rfl ?_
  intro p e s m args below meth c s₁ B hml hv
  obtain ⟨rfl, hP, hK, hD0⟩ := hv
  have hx := B.exec
  have hb := B.bytes
  have hrt := B.returns
  have hts := atoms_spec (ws := wsX5_layWays) B.pre
  have hown : s.vm.findClass RX5 = some m.cls := findClass_of_methodNamed B.named
  have hlocks := B.notSynchronized
  have hl := lv_entry ([.ref (a 0)]) (n := 3) (Nat.le_of_ble_eq_true rfl)
  rw [lg_entry_eq]
  generalize (lg_sl ([.ref (a 0)]) ++ List.replicate (3 - (lg_sl ([.ref (a 0)])).length) Slot.unset).toArray = ls at hl ⊢
  have hl : lv_has ls 3 [(0, .ref (a 0))] := hl
  have hD := kA_self hD0
  obtain ⟨w0, hw0⟩ : ∃ w : va_W, w = MW a cI z st zh le tx th pa rd nu pt wy za := ⟨_, rfl⟩
  have hD : va_D (kA w0) (MW a cI z st zh le tx th pa rd nu pt wy za) := by rw [hw0]; exact hD
  have hS : va_S (kA w0) s.heap s.heap [] := va_S.rf
  rw [show kA (MW a cI z st zh le tx th pa rd nu pt wy za) = kA w0 from by rw [hw0], show kq D (MW a cI z st zh le tx th pa rd nu pt wy za) = kq D w0 from by rw [hw0]]
  have hP : va_P D vwCl (MW a cI z st zh le tx th pa rd nu pt wy za) s.heap := hP
  have hR10 := wf_R10 hw
  have hC4 := wf_C4 hw
  refine lv_iconst (v := nI 0) hx hb dX5_layWays_0 (by decide) ?_
  refine lv_istore_n (lv' := [(1, .int (nI 0)), (0, .ref (a 0))]) hx hb dX5_layWays_1 rfl hl (by decide) rfl (fun ls hl => ?_)
  have ec_wy_0 : (wy : ZZ) = (itN 0 (layR z) wy) := by first | rfl | omega | (simp [layF, layR, layS, itN_s, Int32.not_lt, Int32.not_le]; done) | (simp [layF, layR, layS, itN_s, Int32.not_lt, Int32.not_le]; omega)
  have ew_1 : (MW a cI z st zh le tx th pa rd nu pt wy za : va_W) = (MW a cI z st zh le tx th pa rd nu pt (itN 0 (layR z) wy) za) := mw_c rfl rfl rfl rfl rfl rfl rfl rfl rfl rfl ec_wy_0 rfl
  rw [ew_1] at hP hD
  refine kx_upW (fun k H locs ls => (va_P D vwCl (MW a cI z st zh le tx th pa rd nu pt (itN k (layR z) wy) za) H ∧ va_D (kA w0) (MW a cI z st zh le tx th pa rd nu pt (itN k (layR z) wy) za) ∧ va_S (kA w0) s.heap H locs) ∧ lv_has ls 3 [(0, .ref (a 0)), (1, .int (nI k))]) (0) (nR z) (by omega) _ _ ls ⟨⟨hP, hD, hS⟩, (lv_sub hl [1, 0] rfl)⟩ ?_
  clear hP hD hS
  intro ir H locs ls hirl hirh hp ih2
  obtain ⟨⟨hP, hD, hS⟩, hp⟩ := hp
  have hl := hp
  refine lv_iload_n hx hb dX5_layWays_2 rfl (lv_at hl 1 rfl) ?_
  refine lv_aload_n hx hb dX5_layWays_3 rfl (lv_at hl 0 rfl) ?_
  refine va_get (D := D) (ci := 5) (v := .ref (a 1)) (C := RX5) (T := TX5) (N := 12) hx hb hts iX5_layWays_5 hown hK hP 0 rfl rfl 0 (by decide) (hts (.fieldLink RX5 7 "HallSightsModel" "z" "[I") (List.mem_of_getElem? (i := 1) rfl)) (fun _ h9 => h9) rfl dX5_layWays_4 ?_
  refine lv_iconst (v := nI 3) hx hb dX5_layWays_7 (by decide) ?_
  refine kx_iald hx hb hK hP 1 0 rfl rfl (by omega) (by decide) dX5_layWays_8 ?_
  refine kx_top (wf_R hw) ?_
  refine kx_icmp_ge (tgt := 53) hx hb (by omega) (by omega) dX5_layWays_9 (by decide) (fun c_9_2 => ?_) (fun c_9_3 => ?_)
  · have hq4 : nR z = ir := by omega
    subst hq4
    have ec_wy_5 : ((itN (nR z) (layR z) wy) : ZZ) = (layF z wy) := by first | rfl | omega | (simp [layF, layR, layS, itN_s, Int32.not_lt, Int32.not_le, c_9_2, Nat.not_lt.mpr c_9_2]; done) | (simp [layF, layR, layS, itN_s, Int32.not_lt, Int32.not_le, c_9_2, Nat.not_lt.mpr c_9_2]; omega) | (revert c_9_2; simp +contextual [layF, layR, layS, itN_s, Int32.not_lt, Int32.not_le]; done) | (revert c_9_2; simp +contextual [layF, layR, layS, itN_s, Int32.not_lt, Int32.not_le]; omega)
    have ew_6 : (MW a cI z st zh le tx th pa rd nu pt (itN (nR z) (layR z) wy) za : va_W) = (MW a cI z st zh le tx th pa rd nu pt (layF z wy) za) := mw_c rfl rfl rfl rfl rfl rfl rfl rfl rfl rfl ec_wy_5 rfl
    rw [ew_6] at hP hD
    subst hw0
    exact kq_vret hx hb hrt hlocks hP hD hS dX5_layWays_53
  · refine lv_iconst (v := nI 0) hx hb dX5_layWays_12 (by decide) ?_
    refine lv_istore_n (lv' := [(2, .int (nI 0)), (0, .ref (a 0)), (1, .int (nI ir))]) hx hb dX5_layWays_13 rfl hl (by decide) rfl (fun ls hl => ?_)
    have ec_wy_7 : ((itN ir (layR z) wy) : ZZ) = (itN 0 (layS z ir) (itN ir (layR z) wy)) := by first | rfl | omega | (simp [layF, layR, layS, itN_s, Int32.not_lt, Int32.not_le, c_9_3, Nat.not_le.mpr c_9_3]; done) | (simp [layF, layR, layS, itN_s, Int32.not_lt, Int32.not_le, c_9_3, Nat.not_le.mpr c_9_3]; omega) | (revert c_9_3; simp +contextual [layF, layR, layS, itN_s, Int32.not_lt, Int32.not_le]; done) | (revert c_9_3; simp +contextual [layF, layR, layS, itN_s, Int32.not_lt, Int32.not_le]; omega)
    have ew_8 : (MW a cI z st zh le tx th pa rd nu pt (itN ir (layR z) wy) za : va_W) = (MW a cI z st zh le tx th pa rd nu pt (itN 0 (layS z ir) (itN ir (layR z) wy)) za) := mw_c rfl rfl rfl rfl rfl rfl rfl rfl rfl rfl ec_wy_7 rfl
    rw [ew_8] at hP hD
    refine kx_upW (fun k H locs ls => (va_P D vwCl (MW a cI z st zh le tx th pa rd nu pt (itN k (layS z ir) (itN ir (layR z) wy)) za) H ∧ va_D (kA w0) (MW a cI z st zh le tx th pa rd nu pt (itN k (layS z ir) (itN ir (layR z) wy)) za) ∧ va_S (kA w0) s.heap H locs) ∧ lv_has ls 3 [(0, .ref (a 0)), (1, .int (nI ir)), (2, .int (nI k))]) (0) (nS z ir) (by omega) _ _ ls ⟨⟨hP, hD, hS⟩, (lv_sub hl [1, 2, 0] rfl)⟩ ?_
    clear hP hD hS
    intro iw H locs ls hiwl hiwh hp ih14
    obtain ⟨⟨hP, hD, hS⟩, hp⟩ := hp
    have hl := hp
    have hS14 := wf_S12 hw (show ir < nR z by omega)
    refine lv_iload_n hx hb dX5_layWays_14 rfl (lv_at hl 2 rfl) ?_
    refine lv_aload_n hx hb dX5_layWays_15 rfl (lv_at hl 0 rfl) ?_
    refine lv_iload_n hx hb dX5_layWays_16 rfl (lv_at hl 1 rfl) ?_
    refine lv_iconst (v := nI 2) hx hb dX5_layWays_17 (by decide) ?_
    refine kr_V (As := [.int (nI ir), .int (nI 2)]) (rest := [.int (nI iw)]) (C := RX5) (own := RX5) ⟨hx, hb, hml, hown, hts⟩ (c_X5_of l D cI cC cH cL a z zh tx pa (itN iw (layS z ir) (itN ir (layR z) wy)) st le th rd nu pt za ir 2 (by first | assumption | omega)) (cwV 2 hts gX5_layWays_X5_of rfl rfl rfl k_X5_of ⟨Nat.le_of_ble_eq_true rfl, Nat.le_of_ble_eq_true rfl⟩) hP hK (va_recv (q := (RX5, TX5, 12)) hK hP (ci := 5) (q0 := 0) rfl rfl) rfl hl.1 rfl (Nat.le_of_ble_eq_true rfl) dX5_layWays_18 ⟨Nat.le_of_ble_eq_true rfl, Nat.le_of_ble_eq_true rfl⟩ ?_
    refine kx_top (wf_S hw (show (ir) < nR z by omega)) ?_
    have hS12_9 := wf_S12 hw (show (ir) < nR z by omega)
    refine kx_icmp_ge (tgt := 47) hx hb (by omega) (by omega) dX5_layWays_21 (by decide) (fun c_21_10 => ?_) (fun c_21_11 => ?_)
    · have hq12 : nS z ir = iw := by omega
      subst hq12
      refine lv_iinc (v := nI (ir + 1)) (lv' := [(1, .int (nI (ir + 1))), (0, .ref (a 0)), (2, .int (nI (nS z ir)))]) hx hb dX5_layWays_47 hl (k := 1) rfl (kx_inc 1) (by decide) rfl (fun ls hl => ?_)
      refine lv_goto (tgt := 2) hx hb dX5_layWays_50 (by decide) ?_
      have e2_13 : (ir + 1 : Nat) = ((ir + 1)) := by first | rfl | omega | (simp [layF, layR, layS, itN_s, Int32.not_lt, Int32.not_le, c_9_3, Nat.not_le.mpr c_9_3, c_21_10, Nat.not_lt.mpr c_21_10]; done) | (simp [layF, layR, layS, itN_s, Int32.not_lt, Int32.not_le, c_9_3, Nat.not_le.mpr c_9_3, c_21_10, Nat.not_lt.mpr c_21_10]; omega) | (revert c_9_3 c_21_10; simp +contextual [layF, layR, layS, itN_s, Int32.not_lt, Int32.not_le]; done) | (revert c_9_3 c_21_10; simp +contextual [layF, layR, layS, itN_s, Int32.not_lt, Int32.not_le]; omega)
      have hl2_14 : lv_has ls 3 [(0, .ref (a 0)), (1, .int (nI (ir + 1)))] := lv_eqv (l1 := [(0, .ref (a 0)), (1, .int (nI (ir + 1)))]) (lv_sub hl [1, 0] rfl) (lv_ce rfl (lv_ce (congrArg (fun x => Value.int (nI x)) e2_13) rfl))
      have ec_wy_15 : ((itN (nS z ir) (layS z ir) (itN ir (layR z) wy)) : ZZ) = (itN (ir + 1) (layR z) wy) := by first | rfl | omega | (simp [layF, layR, layS, itN_s, Int32.not_lt, Int32.not_le, c_9_3, Nat.not_le.mpr c_9_3, c_21_10, Nat.not_lt.mpr c_21_10]; done) | (simp [layF, layR, layS, itN_s, Int32.not_lt, Int32.not_le, c_9_3, Nat.not_le.mpr c_9_3, c_21_10, Nat.not_lt.mpr c_21_10]; omega) | (revert c_9_3 c_21_10; simp +contextual [layF, layR, layS, itN_s, Int32.not_lt, Int32.not_le]; done) | (revert c_9_3 c_21_10; simp +contextual [layF, layR, layS, itN_s, Int32.not_lt, Int32.not_le]; omega)
      have ew_16 : (MW a cI z st zh le tx th pa rd nu pt (itN (nS z ir) (layS z ir) (itN ir (layR z) wy)) za : va_W) = (MW a cI z st zh le tx th pa rd nu pt (itN (ir + 1) (layR z) wy) za) := mw_c rfl rfl rfl rfl rfl rfl rfl rfl rfl rfl ec_wy_15 rfl
      rw [ew_16] at hP hD
      exact ih2 _ _ _ (by omega) ⟨⟨hP, hD, hS⟩, hl2_14⟩
    · refine lv_aload_n hx hb dX5_layWays_24 rfl (lv_at hl 0 rfl) ?_
      refine va_get (D := D) (ci := 5) (v := .ref (a 5)) (C := RX5) (T := TX5) (N := 12) hx hb hts iX5_layWays_5 hown hK hP 0 rfl rfl 10 (by decide) (hts (.fieldLink RX5 22 "HallSightsModel" "ways" "[I") (List.mem_of_getElem? (i := 2) rfl)) (fun _ h9 => h9) rfl dX5_layWays_25 ?_
      refine lv_bipush (v := nI 12) hx hb dX5_layWays_28 (by decide) ?_
      refine lv_iload_n hx hb dX5_layWays_30 rfl (lv_at hl 1 rfl) ?_
      refine kx_imul hx hb dX5_layWays_31 ?_
      refine lv_iload_n hx hb dX5_layWays_32 rfl (lv_at hl 2 rfl) ?_
      refine kx_iadd hx hb dX5_layWays_33 ?_
      refine lv_aload_n hx hb dX5_layWays_34 rfl (lv_at hl 0 rfl) ?_
      refine lv_iload_n hx hb dX5_layWays_35 rfl (lv_at hl 1 rfl) ?_
      refine lv_iload_n hx hb dX5_layWays_36 rfl (lv_at hl 2 rfl) ?_
      refine kr_V (As := [.int (nI ir), .int (nI iw)]) (rest := [.int (nI ((12 * ir) + iw)), .ref (a 5)]) (C := RX5) (own := RX5) ⟨hx, hb, hml, hown, hts⟩ (c_X5_inWay l D cI cC cH cL a z zh tx pa (itN iw (layS z ir) (itN ir (layR z) wy)) st le th rd nu pt za ir iw (by first | assumption | omega) (by first | assumption | omega)) (cwV 2 hts gX5_layWays_X5_inWay rfl rfl rfl k_X5_inWay ⟨Nat.le_of_ble_eq_true rfl, Nat.le_of_ble_eq_true rfl⟩) hP hK (va_recv (q := (RX5, TX5, 12)) hK hP (ci := 5) (q0 := 0) rfl rfl) rfl hl.1 rfl (Nat.le_of_ble_eq_true rfl) dX5_layWays_37 ⟨Nat.le_of_ble_eq_true rfl, Nat.le_of_ble_eq_true rfl⟩ ?_
      refine kx_iast hx hb hK hP hD hS 5 0 rfl rfl (by omega) (by decide) dX5_layWays_40 (fun H locs hP hD hS => ?_)
      have hP : va_P D vwCl (MW a cI z st zh le tx th pa rd nu pt (upd (itN iw (layS z ir) (itN ir (layR z) wy)) ((12 * ir) + iw) (nI (ways z ir iw))) za) H := hP
      have hD : va_D (kA w0) (MW a cI z st zh le tx th pa rd nu pt (upd (itN iw (layS z ir) (itN ir (layR z) wy)) ((12 * ir) + iw) (nI (ways z ir iw))) za) := hD
      refine lv_iinc (v := nI (iw + 1)) (lv' := [(2, .int (nI (iw + 1))), (0, .ref (a 0)), (1, .int (nI ir))]) hx hb dX5_layWays_41 hl (k := 2) rfl (kx_inc 1) (by decide) rfl (fun ls hl => ?_)
      refine lv_goto (tgt := 14) hx hb dX5_layWays_44 (by decide) ?_
      have e14_17 : (iw + 1 : Nat) = ((iw + 1)) := by first | rfl | omega | (simp [layF, layR, layS, itN_s, Int32.not_lt, Int32.not_le, c_9_3, Nat.not_le.mpr c_9_3, c_21_11, Nat.not_le.mpr c_21_11]; done) | (simp [layF, layR, layS, itN_s, Int32.not_lt, Int32.not_le, c_9_3, Nat.not_le.mpr c_9_3, c_21_11, Nat.not_le.mpr c_21_11]; omega) | (revert c_9_3 c_21_11; simp +contextual [layF, layR, layS, itN_s, Int32.not_lt, Int32.not_le]; done) | (revert c_9_3 c_21_11; simp +contextual [layF, layR, layS, itN_s, Int32.not_lt, Int32.not_le]; omega)
      have hl14_18 : lv_has ls 3 [(0, .ref (a 0)), (1, .int (nI ir)), (2, .int (nI (iw + 1)))] := lv_eqv (l1 := [(0, .ref (a 0)), (1, .int (nI ir)), (2, .int (nI (iw + 1)))]) (lv_sub hl [1, 2, 0] rfl) (lv_ce rfl (lv_ce rfl (lv_ce (congrArg (fun x => Value.int (nI x)) e14_17) rfl)))
      have ec_wy_19 : ((upd (itN iw (layS z ir) (itN ir (layR z) wy)) ((12 * ir) + iw) (nI (ways z ir iw))) : ZZ) = (itN (iw + 1) (layS z ir) (itN ir (layR z) wy)) := by first | rfl | omega | (simp [layF, layR, layS, itN_s, Int32.not_lt, Int32.not_le, c_9_3, Nat.not_le.mpr c_9_3, c_21_11, Nat.not_le.mpr c_21_11]; done) | (simp [layF, layR, layS, itN_s, Int32.not_lt, Int32.not_le, c_9_3, Nat.not_le.mpr c_9_3, c_21_11, Nat.not_le.mpr c_21_11]; omega) | (revert c_9_3 c_21_11; simp +contextual [layF, layR, layS, itN_s, Int32.not_lt, Int32.not_le]; done) | (revert c_9_3 c_21_11; simp +contextual [layF, layR, layS, itN_s, Int32.not_lt, Int32.not_le]; omega)
      have ew_20 : (MW a cI z st zh le tx th pa rd nu pt (upd (itN iw (layS z ir) (itN ir (layR z) wy)) ((12 * ir) + iw) (nI (ways z ir iw))) za : va_W) = (MW a cI z st zh le tx th pa rd nu pt (itN (iw + 1) (layS z ir) (itN ir (layR z) wy)) za) := mw_c rfl rfl rfl rfl rfl rfl rfl rfl rfl rfl ec_wy_19 rfl
      rw [ew_20] at hP hD
      exact ih14 _ _ _ (by omega) ⟨⟨hP, hD, hS⟩, hl14_18⟩
set_option maxRecDepth 20000 in
theorem iX5_save_5 : ∀ w ∈ wsX50, w ∈ wsX5_save := by decide +kernel
set_option maxHeartbeats 4000000 in
set_option maxRecDepth 100000 in
theorem c_X5_save (l : Launch) (D : va_G) (cI cC cH cL : ClassId) (a : Nat → Nat) (z zh tx pa wy : ZZ) (ns nl : Nat) (th rd nu pt : Int32) (za : Int64)  (hn : ns ≤ 6) : Met l yX5_save wsX5_save ({ frames := 0, cells := 0, slots := 0, locals := 0 }) (kw [.ref (a 0)] D (MW a cI z (nI ns) zh (nI nl) tx th pa rd nu pt wy za) (kT cI cC cH cL)) (kq D (MW a cI z (nI ns) zh (nI nl) tx th pa rd nu pt wy za) (MW a cI z (nI (saveN ns)) (saveH z zh ns) (nI nl) tx th pa rd nu pt wy za) (.returned none)) 0 0 (kA (MW a cI z (nI ns) zh (nI nl) tx th pa rd nu pt wy za)) := by
  refine Met.ofW (cc := cX5_save) (maxL := 2) (ret := none) (by decide) rfl ?_
  intro p e s m args below meth c s₁ B hml hv
  obtain ⟨rfl, hP, hK, hD0⟩ := hv
  have hx := B.exec
  have hb := B.bytes
  have hrt := B.returns
  have hts := atoms_spec (ws := wsX5_save) B.pre
  have hown : s.vm.findClass RX5 = some m.cls := findClass_of_methodNamed B.named
  have hlocks := B.notSynchronized
  have hl := lv_entry ([.ref (a 0)]) (n := 2) (Nat.le_of_ble_eq_true rfl)
  rw [lg_entry_eq]
  generalize (lg_sl ([.ref (a 0)]) ++ List.replicate (2 - (lg_sl ([.ref (a 0)])).length) Slot.unset).toArray = ls at hl ⊢
  have hl : lv_has ls 2 [(0, .ref (a 0))] := hl
  have hD := kA_self hD0
  obtain ⟨w0, hw0⟩ : ∃ w : va_W, w = MW a cI z (nI ns) zh (nI nl) tx th pa rd nu pt wy za := ⟨_, rfl⟩
  have hD : va_D (kA w0) (MW a cI z (nI ns) zh (nI nl) tx th pa rd nu pt wy za) := by rw [hw0]; exact hD
  have hS : va_S (kA w0) s.heap s.heap [] := va_S.rf
  rw [show kA (MW a cI z (nI ns) zh (nI nl) tx th pa rd nu pt wy za) = kA w0 from by rw [hw0], show kq D (MW a cI z (nI ns) zh (nI nl) tx th pa rd nu pt wy za) = kq D w0 from by rw [hw0]]
  have hP : va_P D vwCl (MW a cI z (nI ns) zh (nI nl) tx th pa rd nu pt wy za) s.heap := hP
  refine lv_aload_n hx hb dX5_save_0 rfl (lv_at hl 0 rfl) ?_
  refine va_get (D := D) (ci := 5) (v := .int (nI ns)) (C := RX5) (T := TX5) (N := 12) hx hb hts iX5_save_5 hown hK hP 0 rfl rfl 1 (by decide) (hts (.fieldLink RX5 29 "HallSightsModel" "states" "I") (List.mem_of_getElem? (i := 1) rfl)) (fun _ h9 => h9) rfl dX5_save_1 ?_
  refine lv_bipush (v := nI 6) hx hb dX5_save_4 (by decide) ?_
  refine kx_icmp_ne (tgt := 50) hx hb (by omega) (by omega) dX5_save_6 (by decide) (fun c_6_0 => ?_) (fun c_6_1 => ?_)
  · refine lv_iconst (v := nI 0) hx hb dX5_save_50 (by decide) ?_
    refine lv_istore_n (lv' := [(1, .int (nI 0)), (0, .ref (a 0))]) hx hb dX5_save_51 rfl hl (by decide) rfl (fun ls hl => ?_)
    have ec_zh_2 : (zh : ZZ) = (cpH z zh ns 0) := by funext jj; simp only [upd, cpH]; (repeat' split) <;> first | rfl | omega | (exfalso; omega) | (congr 1; omega)
    have ew_3 : (MW a cI z (nI ns) zh (nI nl) tx th pa rd nu pt wy za : va_W) = (MW a cI z (nI ns) (cpH z zh ns 0) (nI nl) tx th pa rd nu pt wy za) := mw_c rfl rfl ec_zh_2 rfl rfl rfl rfl rfl rfl rfl rfl rfl
    rw [ew_3] at hP hD
    refine kx_upW (fun k H locs ls => (va_P D vwCl (MW a cI z (nI ns) (cpH z zh ns k) (nI nl) tx th pa rd nu pt wy za) H ∧ va_D (kA w0) (MW a cI z (nI ns) (cpH z zh ns k) (nI nl) tx th pa rd nu pt wy za) ∧ va_S (kA w0) s.heap H locs) ∧ lv_has ls 2 [(0, .ref (a 0)), (1, .int (nI k))]) (0) (57) (by omega) _ _ ls ⟨⟨hP, hD, hS⟩, (lv_sub hl [1, 0] rfl)⟩ ?_
    clear hP hD hS
    intro ik H locs ls hikl hikh hp ih52
    obtain ⟨⟨hP, hD, hS⟩, hp⟩ := hp
    have hl := hp
    refine lv_iload_n hx hb dX5_save_52 rfl (lv_at hl 1 rfl) ?_
    refine lv_bipush (v := nI 57) hx hb dX5_save_53 (by decide) ?_
    refine kx_icmp_ge (tgt := 84) hx hb (by omega) (by omega) dX5_save_55 (by decide) (fun c_55_4 => ?_) (fun c_55_5 => ?_)
    · have hq6 : 57 = ik := by omega
      subst hq6
      refine lv_aload_n hx hb dX5_save_84 rfl (lv_at hl 0 rfl) ?_
      refine lv_dup hx hb dX5_save_85 rfl ?_
      refine va_get (D := D) (ci := 5) (v := .int (nI ns)) (C := RX5) (T := TX5) (N := 12) hx hb hts iX5_save_5 hown hK hP 0 rfl rfl 1 (by decide) (hts (.fieldLink RX5 29 "HallSightsModel" "states" "I") (List.mem_of_getElem? (i := 1) rfl)) (fun _ h9 => h9) rfl dX5_save_86 ?_
      refine lv_iconst (v := nI 1) hx hb dX5_save_89 (by decide) ?_
      refine kx_iadd hx hb dX5_save_90 ?_
      refine va_put (D := D) (ci := 5) (v := .int (nI (ns + 1))) (ty := .int) (C := RX5) (T := TX5) (N := 12) hx hb hts iX5_save_5 tyX5 tyX5_ok nmX5 hown hK hP hD hS 0 rfl rfl 1 (by decide) (hts (.fieldLink RX5 29 "HallSightsModel" "states" "I") (List.mem_of_getElem? (i := 1) rfl)) (fun _ h9 => h9) rfl (by decide +kernel) rfl rfl (Nat.le_of_ble_eq_true rfl) dX5_save_91 (fun H locs hP hD hS => ?_)
      have hP : va_P D vwCl (MW a cI z (nI (ns + 1)) (cpH z zh ns 57) (nI nl) tx th pa rd nu pt wy za) H := hP
      have hD : va_D (kA w0) (MW a cI z (nI (ns + 1)) (cpH z zh ns 57) (nI nl) tx th pa rd nu pt wy za) := hD
      have ec_st_7 : ((nI (ns + 1)) : Int32) = (nI (saveN ns)) := by first | rfl | omega | (simp [saveH, saveN, Int32.not_lt, Int32.not_le, c_6_0, c_55_4, Nat.not_lt.mpr c_55_4]; done) | (simp [saveH, saveN, Int32.not_lt, Int32.not_le, c_6_0, c_55_4, Nat.not_lt.mpr c_55_4]; omega) | (revert c_6_0 c_55_4; simp +contextual [saveH, saveN, Int32.not_lt, Int32.not_le]; done) | (revert c_6_0 c_55_4; simp +contextual [saveH, saveN, Int32.not_lt, Int32.not_le]; omega)
      have ec_zh_8 : ((cpH z zh ns 57) : ZZ) = (saveH z zh ns) := by first | rfl | omega | (simp [saveH, saveN, Int32.not_lt, Int32.not_le, c_6_0, c_55_4, Nat.not_lt.mpr c_55_4]; done) | (simp [saveH, saveN, Int32.not_lt, Int32.not_le, c_6_0, c_55_4, Nat.not_lt.mpr c_55_4]; omega) | (revert c_6_0 c_55_4; simp +contextual [saveH, saveN, Int32.not_lt, Int32.not_le]; done) | (revert c_6_0 c_55_4; simp +contextual [saveH, saveN, Int32.not_lt, Int32.not_le]; omega)
      have ew_9 : (MW a cI z (nI (ns + 1)) (cpH z zh ns 57) (nI nl) tx th pa rd nu pt wy za : va_W) = (MW a cI z (nI (saveN ns)) (saveH z zh ns) (nI nl) tx th pa rd nu pt wy za) := mw_c rfl ec_st_7 ec_zh_8 rfl rfl rfl rfl rfl rfl rfl rfl rfl
      rw [ew_9] at hP hD
      subst hw0
      exact kq_vret hx hb hrt hlocks hP hD hS dX5_save_94
    · refine lv_aload_n hx hb dX5_save_58 rfl (lv_at hl 0 rfl) ?_
      refine va_get (D := D) (ci := 5) (v := .ref (a 2)) (C := RX5) (T := TX5) (N := 12) hx hb hts iX5_save_5 hown hK hP 0 rfl rfl 2 (by decide) (hts (.fieldLink RX5 13 "HallSightsModel" "history" "[I") (List.mem_of_getElem? (i := 2) rfl)) (fun _ h9 => h9) rfl dX5_save_59 ?_
      refine lv_bipush (v := nI 57) hx hb dX5_save_62 (by decide) ?_
      refine lv_aload_n hx hb dX5_save_64 rfl (lv_at hl 0 rfl) ?_
      refine va_get (D := D) (ci := 5) (v := .int (nI ns)) (C := RX5) (T := TX5) (N := 12) hx hb hts iX5_save_5 hown hK hP 0 rfl rfl 1 (by decide) (hts (.fieldLink RX5 29 "HallSightsModel" "states" "I") (List.mem_of_getElem? (i := 1) rfl)) (fun _ h9 => h9) rfl dX5_save_65 ?_
      refine kx_imul hx hb dX5_save_68 ?_
      refine lv_iload_n hx hb dX5_save_69 rfl (lv_at hl 1 rfl) ?_
      refine kx_iadd hx hb dX5_save_70 ?_
      refine lv_aload_n hx hb dX5_save_71 rfl (lv_at hl 0 rfl) ?_
      refine va_get (D := D) (ci := 5) (v := .ref (a 1)) (C := RX5) (T := TX5) (N := 12) hx hb hts iX5_save_5 hown hK hP 0 rfl rfl 0 (by decide) (hts (.fieldLink RX5 7 "HallSightsModel" "z" "[I") (List.mem_of_getElem? (i := 3) rfl)) (fun _ h9 => h9) rfl dX5_save_72 ?_
      refine lv_iload_n hx hb dX5_save_75 rfl (lv_at hl 1 rfl) ?_
      refine kx_iald hx hb hK hP 1 0 rfl rfl (by omega) (by decide) dX5_save_76 ?_
      refine kx_iast hx hb hK hP hD hS 2 0 rfl rfl (by omega) (by decide) dX5_save_77 (fun H locs hP hD hS => ?_)
      have hP : va_P D vwCl (MW a cI z (nI ns) (upd (cpH z zh ns ik) ((57 * ns) + ik) (z ik)) (nI nl) tx th pa rd nu pt wy za) H := hP
      have hD : va_D (kA w0) (MW a cI z (nI ns) (upd (cpH z zh ns ik) ((57 * ns) + ik) (z ik)) (nI nl) tx th pa rd nu pt wy za) := hD
      refine lv_iinc (v := nI (ik + 1)) (lv' := [(1, .int (nI (ik + 1))), (0, .ref (a 0))]) hx hb dX5_save_78 hl (k := 1) rfl (kx_inc 1) (by decide) rfl (fun ls hl => ?_)
      refine lv_goto (tgt := 52) hx hb dX5_save_81 (by decide) ?_
      have e52_10 : (ik + 1 : Nat) = ((ik + 1)) := by first | rfl | omega | (simp [saveH, saveN, Int32.not_lt, Int32.not_le, c_6_0, c_55_5, Nat.not_le.mpr c_55_5]; done) | (simp [saveH, saveN, Int32.not_lt, Int32.not_le, c_6_0, c_55_5, Nat.not_le.mpr c_55_5]; omega) | (revert c_6_0 c_55_5; simp +contextual [saveH, saveN, Int32.not_lt, Int32.not_le]; done) | (revert c_6_0 c_55_5; simp +contextual [saveH, saveN, Int32.not_lt, Int32.not_le]; omega)
      have hl52_11 : lv_has ls 2 [(0, .ref (a 0)), (1, .int (nI (ik + 1)))] := lv_eqv (l1 := [(0, .ref (a 0)), (1, .int (nI (ik + 1)))]) (lv_sub hl [1, 0] rfl) (lv_ce rfl (lv_ce (congrArg (fun x => Value.int (nI x)) e52_10) rfl))
      have ec_zh_12 : ((upd (cpH z zh ns ik) ((57 * ns) + ik) (z ik)) : ZZ) = (cpH z zh ns (ik + 1)) := by funext jj; simp only [upd, cpH]; (repeat' split) <;> first | rfl | omega | (exfalso; omega) | (congr 1; omega)
      have ew_13 : (MW a cI z (nI ns) (upd (cpH z zh ns ik) ((57 * ns) + ik) (z ik)) (nI nl) tx th pa rd nu pt wy za : va_W) = (MW a cI z (nI ns) (cpH z zh ns (ik + 1)) (nI nl) tx th pa rd nu pt wy za) := mw_c rfl rfl ec_zh_12 rfl rfl rfl rfl rfl rfl rfl rfl rfl
      rw [ew_13] at hP hD
      exact ih52 _ _ _ (by omega) ⟨⟨hP, hD, hS⟩, hl52_11⟩
  · refine lv_bipush (v := nI 57) hx hb dX5_save_9 (by decide) ?_
    refine lv_istore_n (lv' := [(1, .int (nI 57)), (0, .ref (a 0))]) hx hb dX5_save_11 rfl hl (by decide) rfl (fun ls hl => ?_)
    have ec_zh_14 : (zh : ZZ) = (shH zh 57) := by funext jj; simp only [upd, shH]; (repeat' split) <;> first | rfl | omega | (exfalso; omega) | (congr 1; omega)
    have ew_15 : (MW a cI z (nI ns) zh (nI nl) tx th pa rd nu pt wy za : va_W) = (MW a cI z (nI ns) (shH zh 57) (nI nl) tx th pa rd nu pt wy za) := mw_c rfl rfl ec_zh_14 rfl rfl rfl rfl rfl rfl rfl rfl rfl
    rw [ew_15] at hP hD
    refine kx_upW (fun k H locs ls => (va_P D vwCl (MW a cI z (nI ns) (shH zh k) (nI nl) tx th pa rd nu pt wy za) H ∧ va_D (kA w0) (MW a cI z (nI ns) (shH zh k) (nI nl) tx th pa rd nu pt wy za) ∧ va_S (kA w0) s.heap H locs) ∧ lv_has ls 2 [(0, .ref (a 0)), (1, .int (nI k))]) (57) (342) (by omega) _ _ ls ⟨⟨hP, hD, hS⟩, (lv_sub hl [1, 0] rfl)⟩ ?_
    clear hP hD hS
    intro ik H locs ls hikl hikh hp ih12
    obtain ⟨⟨hP, hD, hS⟩, hp⟩ := hp
    have hl := hp
    refine lv_iload_n hx hb dX5_save_12 rfl (lv_at hl 1 rfl) ?_
    refine lv_sipush (v := nI 342) hx hb dX5_save_13 (by decide) ?_
    refine kx_icmp_ge (tgt := 40) hx hb (by omega) (by omega) dX5_save_16 (by decide) (fun c_16_16 => ?_) (fun c_16_17 => ?_)
    · have hq18 : 342 = ik := by omega
      subst hq18
      refine lv_aload_n hx hb dX5_save_40 rfl (lv_at hl 0 rfl) ?_
      refine lv_dup hx hb dX5_save_41 rfl ?_
      refine va_get (D := D) (ci := 5) (v := .int (nI ns)) (C := RX5) (T := TX5) (N := 12) hx hb hts iX5_save_5 hown hK hP 0 rfl rfl 1 (by decide) (hts (.fieldLink RX5 29 "HallSightsModel" "states" "I") (List.mem_of_getElem? (i := 1) rfl)) (fun _ h9 => h9) rfl dX5_save_42 ?_
      refine lv_iconst (v := nI 1) hx hb dX5_save_45 (by decide) ?_
      refine kx_isub hx hb (by omega) dX5_save_46 ?_
      refine va_put (D := D) (ci := 5) (v := .int (nI (ns - 1))) (ty := .int) (C := RX5) (T := TX5) (N := 12) hx hb hts iX5_save_5 tyX5 tyX5_ok nmX5 hown hK hP hD hS 0 rfl rfl 1 (by decide) (hts (.fieldLink RX5 29 "HallSightsModel" "states" "I") (List.mem_of_getElem? (i := 1) rfl)) (fun _ h9 => h9) rfl (by decide +kernel) rfl rfl (Nat.le_of_ble_eq_true rfl) dX5_save_47 (fun H locs hP hD hS => ?_)
      have hP : va_P D vwCl (MW a cI z (nI (ns - 1)) (shH zh 342) (nI nl) tx th pa rd nu pt wy za) H := hP
      have hD : va_D (kA w0) (MW a cI z (nI (ns - 1)) (shH zh 342) (nI nl) tx th pa rd nu pt wy za) := hD
      refine lv_iconst (v := nI 0) hx hb dX5_save_50 (by decide) ?_
      refine lv_istore_n (lv' := [(1, .int (nI 0)), (0, .ref (a 0))]) hx hb dX5_save_51 rfl hl (by decide) rfl (fun ls hl => ?_)
      have ec_zh_19 : ((shH zh 342) : ZZ) = (cpH z (shH zh 342) (ns - 1) 0) := by funext jj; simp only [upd, cpH]; (repeat' split) <;> first | rfl | omega | (exfalso; omega) | (congr 1; omega)
      have ew_20 : (MW a cI z (nI (ns - 1)) (shH zh 342) (nI nl) tx th pa rd nu pt wy za : va_W) = (MW a cI z (nI (ns - 1)) (cpH z (shH zh 342) (ns - 1) 0) (nI nl) tx th pa rd nu pt wy za) := mw_c rfl rfl ec_zh_19 rfl rfl rfl rfl rfl rfl rfl rfl rfl
      rw [ew_20] at hP hD
      refine kx_upW (fun k H locs ls => (va_P D vwCl (MW a cI z (nI (ns - 1)) (cpH z (shH zh 342) (ns - 1) k) (nI nl) tx th pa rd nu pt wy za) H ∧ va_D (kA w0) (MW a cI z (nI (ns - 1)) (cpH z (shH zh 342) (ns - 1) k) (nI nl) tx th pa rd nu pt wy za) ∧ va_S (kA w0) s.heap H locs) ∧ lv_has ls 2 [(0, .ref (a 0)), (1, .int (nI k))]) (0) (57) (by omega) _ _ ls ⟨⟨hP, hD, hS⟩, (lv_sub hl [1, 0] rfl)⟩ ?_
      clear hP hD hS
      intro ik H locs ls hikl hikh hp ih52
      obtain ⟨⟨hP, hD, hS⟩, hp⟩ := hp
      have hl := hp
      refine lv_iload_n hx hb dX5_save_52 rfl (lv_at hl 1 rfl) ?_
      refine lv_bipush (v := nI 57) hx hb dX5_save_53 (by decide) ?_
      refine kx_icmp_ge (tgt := 84) hx hb (by omega) (by omega) dX5_save_55 (by decide) (fun c_55_21 => ?_) (fun c_55_22 => ?_)
      · have hq23 : 57 = ik := by omega
        subst hq23
        refine lv_aload_n hx hb dX5_save_84 rfl (lv_at hl 0 rfl) ?_
        refine lv_dup hx hb dX5_save_85 rfl ?_
        refine va_get (D := D) (ci := 5) (v := .int (nI (ns - 1))) (C := RX5) (T := TX5) (N := 12) hx hb hts iX5_save_5 hown hK hP 0 rfl rfl 1 (by decide) (hts (.fieldLink RX5 29 "HallSightsModel" "states" "I") (List.mem_of_getElem? (i := 1) rfl)) (fun _ h9 => h9) rfl dX5_save_86 ?_
        refine lv_iconst (v := nI 1) hx hb dX5_save_89 (by decide) ?_
        refine kx_iadd hx hb dX5_save_90 ?_
        refine va_put (D := D) (ci := 5) (v := .int (nI ((ns - 1) + 1))) (ty := .int) (C := RX5) (T := TX5) (N := 12) hx hb hts iX5_save_5 tyX5 tyX5_ok nmX5 hown hK hP hD hS 0 rfl rfl 1 (by decide) (hts (.fieldLink RX5 29 "HallSightsModel" "states" "I") (List.mem_of_getElem? (i := 1) rfl)) (fun _ h9 => h9) rfl (by decide +kernel) rfl rfl (Nat.le_of_ble_eq_true rfl) dX5_save_91 (fun H locs hP hD hS => ?_)
        have hP : va_P D vwCl (MW a cI z (nI ((ns - 1) + 1)) (cpH z (shH zh 342) (ns - 1) 57) (nI nl) tx th pa rd nu pt wy za) H := hP
        have hD : va_D (kA w0) (MW a cI z (nI ((ns - 1) + 1)) (cpH z (shH zh 342) (ns - 1) 57) (nI nl) tx th pa rd nu pt wy za) := hD
        have ec_st_24 : ((nI ((ns - 1) + 1)) : Int32) = (nI (saveN ns)) := by first | rfl | omega | (simp [saveH, saveN, Int32.not_lt, Int32.not_le, c_6_1, c_16_16, Nat.not_lt.mpr c_16_16, c_55_21, Nat.not_lt.mpr c_55_21]; done) | (simp [saveH, saveN, Int32.not_lt, Int32.not_le, c_6_1, c_16_16, Nat.not_lt.mpr c_16_16, c_55_21, Nat.not_lt.mpr c_55_21]; omega) | (revert c_6_1 c_16_16 c_55_21; simp +contextual [saveH, saveN, Int32.not_lt, Int32.not_le]; done) | (revert c_6_1 c_16_16 c_55_21; simp +contextual [saveH, saveN, Int32.not_lt, Int32.not_le]; omega)
        have ec_zh_25 : ((cpH z (shH zh 342) (ns - 1) 57) : ZZ) = (saveH z zh ns) := by first | rfl | omega | (simp [saveH, saveN, Int32.not_lt, Int32.not_le, c_6_1, c_16_16, Nat.not_lt.mpr c_16_16, c_55_21, Nat.not_lt.mpr c_55_21]; done) | (simp [saveH, saveN, Int32.not_lt, Int32.not_le, c_6_1, c_16_16, Nat.not_lt.mpr c_16_16, c_55_21, Nat.not_lt.mpr c_55_21]; omega) | (revert c_6_1 c_16_16 c_55_21; simp +contextual [saveH, saveN, Int32.not_lt, Int32.not_le]; done) | (revert c_6_1 c_16_16 c_55_21; simp +contextual [saveH, saveN, Int32.not_lt, Int32.not_le]; omega)
        have ew_26 : (MW a cI z (nI ((ns - 1) + 1)) (cpH z (shH zh 342) (ns - 1) 57) (nI nl) tx th pa rd nu pt wy za : va_W) = (MW a cI z (nI (saveN ns)) (saveH z zh ns) (nI nl) tx th pa rd nu pt wy za) := mw_c rfl ec_st_24 ec_zh_25 rfl rfl rfl rfl rfl rfl rfl rfl rfl
        rw [ew_26] at hP hD
        subst hw0
        exact kq_vret hx hb hrt hlocks hP hD hS dX5_save_94
      · refine lv_aload_n hx hb dX5_save_58 rfl (lv_at hl 0 rfl) ?_
        refine va_get (D := D) (ci := 5) (v := .ref (a 2)) (C := RX5) (T := TX5) (N := 12) hx hb hts iX5_save_5 hown hK hP 0 rfl rfl 2 (by decide) (hts (.fieldLink RX5 13 "HallSightsModel" "history" "[I") (List.mem_of_getElem? (i := 2) rfl)) (fun _ h9 => h9) rfl dX5_save_59 ?_
        refine lv_bipush (v := nI 57) hx hb dX5_save_62 (by decide) ?_
        refine lv_aload_n hx hb dX5_save_64 rfl (lv_at hl 0 rfl) ?_
        refine va_get (D := D) (ci := 5) (v := .int (nI (ns - 1))) (C := RX5) (T := TX5) (N := 12) hx hb hts iX5_save_5 hown hK hP 0 rfl rfl 1 (by decide) (hts (.fieldLink RX5 29 "HallSightsModel" "states" "I") (List.mem_of_getElem? (i := 1) rfl)) (fun _ h9 => h9) rfl dX5_save_65 ?_
        refine kx_imul hx hb dX5_save_68 ?_
        refine lv_iload_n hx hb dX5_save_69 rfl (lv_at hl 1 rfl) ?_
        refine kx_iadd hx hb dX5_save_70 ?_
        refine lv_aload_n hx hb dX5_save_71 rfl (lv_at hl 0 rfl) ?_
        refine va_get (D := D) (ci := 5) (v := .ref (a 1)) (C := RX5) (T := TX5) (N := 12) hx hb hts iX5_save_5 hown hK hP 0 rfl rfl 0 (by decide) (hts (.fieldLink RX5 7 "HallSightsModel" "z" "[I") (List.mem_of_getElem? (i := 3) rfl)) (fun _ h9 => h9) rfl dX5_save_72 ?_
        refine lv_iload_n hx hb dX5_save_75 rfl (lv_at hl 1 rfl) ?_
        refine kx_iald hx hb hK hP 1 0 rfl rfl (by omega) (by decide) dX5_save_76 ?_
        refine kx_iast hx hb hK hP hD hS 2 0 rfl rfl (by omega) (by decide) dX5_save_77 (fun H locs hP hD hS => ?_)
        have hP : va_P D vwCl (MW a cI z (nI (ns - 1)) (upd (cpH z (shH zh 342) (ns - 1) ik) ((57 * (ns - 1)) + ik) (z ik)) (nI nl) tx th pa rd nu pt wy za) H := hP
        have hD : va_D (kA w0) (MW a cI z (nI (ns - 1)) (upd (cpH z (shH zh 342) (ns - 1) ik) ((57 * (ns - 1)) + ik) (z ik)) (nI nl) tx th pa rd nu pt wy za) := hD
        refine lv_iinc (v := nI (ik + 1)) (lv' := [(1, .int (nI (ik + 1))), (0, .ref (a 0))]) hx hb dX5_save_78 hl (k := 1) rfl (kx_inc 1) (by decide) rfl (fun ls hl => ?_)
        refine lv_goto (tgt := 52) hx hb dX5_save_81 (by decide) ?_
        have e52_27 : (ik + 1 : Nat) = ((ik + 1)) := by first | rfl | omega | (simp [saveH, saveN, Int32.not_lt, Int32.not_le, c_6_1, c_16_16, Nat.not_lt.mpr c_16_16, c_55_22, Nat.not_le.mpr c_55_22]; done) | (simp [saveH, saveN, Int32.not_lt, Int32.not_le, c_6_1, c_16_16, Nat.not_lt.mpr c_16_16, c_55_22, Nat.not_le.mpr c_55_22]; omega) | (revert c_6_1 c_16_16 c_55_22; simp +contextual [saveH, saveN, Int32.not_lt, Int32.not_le]; done) | (revert c_6_1 c_16_16 c_55_22; simp +contextual [saveH, saveN, Int32.not_lt, Int32.not_le]; omega)
        have hl52_28 : lv_has ls 2 [(0, .ref (a 0)), (1, .int (nI (ik + 1)))] := lv_eqv (l1 := [(0, .ref (a 0)), (1, .int (nI (ik + 1)))]) (lv_sub hl [1, 0] rfl) (lv_ce rfl (lv_ce (congrArg (fun x => Value.int (nI x)) e52_27) rfl))
        have ec_zh_29 : ((upd (cpH z (shH zh 342) (ns - 1) ik) ((57 * (ns - 1)) + ik) (z ik)) : ZZ) = (cpH z (shH zh 342) (ns - 1) (ik + 1)) := by funext jj; simp only [upd, cpH]; (repeat' split) <;> first | rfl | omega | (exfalso; omega) | (congr 1; omega)
        have ew_30 : (MW a cI z (nI (ns - 1)) (upd (cpH z (shH zh 342) (ns - 1) ik) ((57 * (ns - 1)) + ik) (z ik)) (nI nl) tx th pa rd nu pt wy za : va_W) = (MW a cI z (nI (ns - 1)) (cpH z (shH zh 342) (ns - 1) (ik + 1)) (nI nl) tx th pa rd nu pt wy za) := mw_c rfl rfl ec_zh_29 rfl rfl rfl rfl rfl rfl rfl rfl rfl
        rw [ew_30] at hP hD
        exact ih52 _ _ _ (by omega) ⟨⟨hP, hD, hS⟩, hl52_28⟩
    · refine lv_aload_n hx hb dX5_save_19 rfl (lv_at hl 0 rfl) ?_
      refine va_get (D := D) (ci := 5) (v := .ref (a 2)) (C := RX5) (T := TX5) (N := 12) hx hb hts iX5_save_5 hown hK hP 0 rfl rfl 2 (by decide) (hts (.fieldLink RX5 13 "HallSightsModel" "history" "[I") (List.mem_of_getElem? (i := 2) rfl)) (fun _ h9 => h9) rfl dX5_save_20 ?_
      refine lv_iload_n hx hb dX5_save_23 rfl (lv_at hl 1 rfl) ?_
      refine lv_bipush (v := nI 57) hx hb dX5_save_24 (by decide) ?_
      refine kx_isub hx hb (by omega) dX5_save_26 ?_
      refine lv_aload_n hx hb dX5_save_27 rfl (lv_at hl 0 rfl) ?_
      refine va_get (D := D) (ci := 5) (v := .ref (a 2)) (C := RX5) (T := TX5) (N := 12) hx hb hts iX5_save_5 hown hK hP 0 rfl rfl 2 (by decide) (hts (.fieldLink RX5 13 "HallSightsModel" "history" "[I") (List.mem_of_getElem? (i := 2) rfl)) (fun _ h9 => h9) rfl dX5_save_28 ?_
      refine lv_iload_n hx hb dX5_save_31 rfl (lv_at hl 1 rfl) ?_
      refine kx_iald hx hb hK hP 2 0 rfl rfl (by omega) (by decide) dX5_save_32 ?_
      refine kx_iast hx hb hK hP hD hS 2 0 rfl rfl (by omega) (by decide) dX5_save_33 (fun H locs hP hD hS => ?_)
      have hP : va_P D vwCl (MW a cI z (nI ns) (upd (shH zh ik) (ik - 57) ((shH zh ik) ik)) (nI nl) tx th pa rd nu pt wy za) H := hP
      have hD : va_D (kA w0) (MW a cI z (nI ns) (upd (shH zh ik) (ik - 57) ((shH zh ik) ik)) (nI nl) tx th pa rd nu pt wy za) := hD
      refine lv_iinc (v := nI (ik + 1)) (lv' := [(1, .int (nI (ik + 1))), (0, .ref (a 0))]) hx hb dX5_save_34 hl (k := 1) rfl (kx_inc 1) (by decide) rfl (fun ls hl => ?_)
      refine lv_goto (tgt := 12) hx hb dX5_save_37 (by decide) ?_
      have e12_31 : (ik + 1 : Nat) = ((ik + 1)) := by first | rfl | omega | (simp [saveH, saveN, Int32.not_lt, Int32.not_le, c_6_1, c_16_17, Nat.not_le.mpr c_16_17]; done) | (simp [saveH, saveN, Int32.not_lt, Int32.not_le, c_6_1, c_16_17, Nat.not_le.mpr c_16_17]; omega) | (revert c_6_1 c_16_17; simp +contextual [saveH, saveN, Int32.not_lt, Int32.not_le]; done) | (revert c_6_1 c_16_17; simp +contextual [saveH, saveN, Int32.not_lt, Int32.not_le]; omega)
      have hl12_32 : lv_has ls 2 [(0, .ref (a 0)), (1, .int (nI (ik + 1)))] := lv_eqv (l1 := [(0, .ref (a 0)), (1, .int (nI (ik + 1)))]) (lv_sub hl [1, 0] rfl) (lv_ce rfl (lv_ce (congrArg (fun x => Value.int (nI x)) e12_31) rfl))
      have ec_zh_33 : ((upd (shH zh ik) (ik - 57) ((shH zh ik) ik)) : ZZ) = (shH zh (ik + 1)) := by funext jj; simp only [upd, shH]; (repeat' split) <;> first | rfl | omega | (exfalso; omega) | (congr 1; omega)
      have ew_34 : (MW a cI z (nI ns) (upd (shH zh ik) (ik - 57) ((shH zh ik) ik)) (nI nl) tx th pa rd nu pt wy za : va_W) = (MW a cI z (nI ns) (shH zh (ik + 1)) (nI nl) tx th pa rd nu pt wy za) := mw_c rfl rfl ec_zh_33 rfl rfl rfl rfl rfl rfl rfl rfl rfl
      rw [ew_34] at hP hD
      exact ih12 _ _ _ (by omega) ⟨⟨hP, hD, hS⟩, hl12_32⟩
