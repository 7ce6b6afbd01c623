theorem k_L_inWay : yL_inWay.cls = RL ∧ yL_inWay.cls ≠ "java/lang/invoke/MethodHandle" ∧ yL_inWay.cls ≠ "java/lang/invoke/VarHandle" ∧ (parseMethodDescriptor yL_inWay.desc).map (fun d => d.parameters.length) = some 6 := by decide +kernel
theorem k_L_inWayS : yL_inWay.cls ≠ "java/lang/invoke/MethodHandle" ∧ yL_inWay.cls ≠ "java/lang/invoke/VarHandle" ∧ (parseMethodDescriptor yL_inWay.desc).map (fun d => d.parameters.length) = some 6 := k_L_inWay.2
theorem k_L_side : yL_side.cls = RL ∧ yL_side.cls ≠ "java/lang/invoke/MethodHandle" ∧ yL_side.cls ≠ "java/lang/invoke/VarHandle" ∧ (parseMethodDescriptor yL_side.desc).map (fun d => d.parameters.length) = some 3 := by decide +kernel
theorem k_L_sideS : yL_side.cls ≠ "java/lang/invoke/MethodHandle" ∧ yL_side.cls ≠ "java/lang/invoke/VarHandle" ∧ (parseMethodDescriptor yL_side.desc).map (fun d => d.parameters.length) = some 3 := k_L_side.2
set_option maxHeartbeats 4000000 in
set_option maxRecDepth 100000 in
theorem c_L_at (l : Launch) (D : va_G) (cI cC cH cL : ClassId)  (v0 : Int32) (n0 : Nat) (hn0 : 0 < n0) (hn9 : n0 < 2 ^ 31) : Met l yL_at wsL_at ({ frames := 0, cells := 0, slots := 0, locals := 0 }) (kp [.int v0, .int (nI n0)] D ([]) (kT cI cC cH cL)) (kr (.returned (some (.int (nI (atN v0 n0)))))) 0 0 (fun _ => False) := by
  refine Met.ofW (cc := cL_at) (maxL := 2) (ret := (some .int)) (by decide) rfl ?_
  intro p e s m args below meth c s₁ B hml hv
  obtain ⟨rfl, hP, hK⟩ := hv
  have hx := B.exec
  have hb := B.bytes
  have hrt := B.returns
  have hts := atoms_spec (ws := wsL_at) B.pre
  have hown : s.vm.findClass RL = some m.cls := findClass_of_methodNamed B.named
  have hlocks := B.notSynchronized
  have hl := lv_entry ([.int v0, .int (nI n0)]) (n := 2) (Nat.le_of_ble_eq_true rfl)
  rw [lg_entry_eq]
  generalize (lg_sl ([.int v0, .int (nI n0)]) ++ List.replicate (2 - (lg_sl ([.int v0, .int (nI n0)])).length) Slot.unset).toArray = ls at hl ⊢
  have hl : lv_has ls 2 [(0, .int v0), (1, .int (nI n0))] := hl
  have hh0 := hfN_lt v0
  refine lv_iload_n hx hb dL_at_0 rfl (lv_at hl 0 rfl) ?_
  refine lv_iconst (v := nI 1) hx hb dL_at_1 (by decide) ?_
  refine lv_iushr (v := (ush v0 (nI 1))) hx hb dL_at_2 rfl ?_
  refine kx_top (show ((ush v0 (nI 1)) : Int32) = nI (hfN v0) from by exact ush_1 v0) ?_
  refine lv_iload_n hx hb dL_at_3 rfl (lv_at hl 1 rfl) ?_
  refine kx_irem hx hb (by omega) (by omega) (by omega) dL_at_4 ?_
  have e_0 : (((hfN v0) % n0) : Nat) = (atN v0 n0) := by first | rfl | omega | (simp [atN, Int32.not_lt, Int32.not_le]; done) | (simp [atN, Int32.not_lt, Int32.not_le]; omega)
  exact kr_iret hx hb hrt hlocks (congrArg nI e_0) rfl dL_at_5
set_option maxHeartbeats 4000000 in
set_option maxRecDepth 100000 in
theorem c_L_side (l : Launch) (D : va_G) (cI cC cH cL : ClassId) (ra : Nat) (rf : ZZ) (r0 : Nat) (k0 : Nat) (z : ZZ) (hw : WF z) (h6 : nR z ≤ 6) (hO : RO z rf) (hr : r0 < nR z) : Met l yL_side wsL_side ({ frames := 0, cells := 0, slots := 0, locals := 0 }) (kp [.ref ra, .int (nI r0), .int (nI k0)] D ([(ra, .inl (cI, 28, .inl rf))]) (kT cI cC cH cL)) (kr (.returned (some (.int (side z r0 k0))))) 0 0 (fun _ => False) := by
  refine Met.ofW (cc := cL_side) (maxL := 3) (ret := (some .int)) (by decide) rfl ?_
  intro p e s m args below meth c s₁ B hml hv
  obtain ⟨rfl, hP, hK⟩ := hv
  have hx := B.exec
  have hb := B.bytes
  have hrt := B.returns
  have hts := atoms_spec (ws := wsL_side) B.pre
  have hown : s.vm.findClass RL = some m.cls := findClass_of_methodNamed B.named
  have hlocks := B.notSynchronized
  have hl := lv_entry ([.ref ra, .int (nI r0), .int (nI k0)]) (n := 3) (Nat.le_of_ble_eq_true rfl)
  rw [lg_entry_eq]
  generalize (lg_sl ([.ref ra, .int (nI r0), .int (nI k0)]) ++ List.replicate (3 - (lg_sl ([.ref ra, .int (nI r0), .int (nI k0)])).length) Slot.unset).toArray = ls at hl ⊢
  have hl : lv_has ls 3 [(0, .ref ra), (1, .int (nI r0)), (2, .int (nI k0))] := hl
  have hR10 := wf_R10 hw
  have hC4 := wf_C4 hw
  refine lv_iconst (v := nI 2) hx hb dL_side_0 (by decide) ?_
  refine lv_iload_n hx hb dL_side_1 rfl (lv_at hl 2 rfl) ?_
  refine kx_imul hx hb dL_side_2 ?_
  refine lv_iconst (v := nI 1) hx hb dL_side_3 (by decide) ?_
  refine kx_iadd hx hb dL_side_4 ?_
  refine lv_aload_n hx hb dL_side_5 rfl (lv_at hl 0 rfl) ?_
  refine lv_iconst (v := nI 4) hx hb dL_side_6 (by decide) ?_
  refine lv_iload_n hx hb dL_side_7 rfl (lv_at hl 1 rfl) ?_
  refine kx_imul hx hb dL_side_8 ?_
  refine lv_iconst (v := nI 2) hx hb dL_side_9 (by decide) ?_
  refine kx_iadd hx hb dL_side_10 ?_
  refine kx_iald hx hb hK hP 0 0 rfl rfl (by omega) (by decide) dL_side_11 ?_
  refine kx_top (show (rf ((4 * r0) + 2) : Int32) = nI (nS z r0) from (ro_2 hO hw (by omega))) ?_
  have hS9_0 := wf_S12 hw (show r0 < nR z by omega)
  refine lv_isub hx hb dL_side_12 ?_
  have e_1 : (((nI ((2 * k0) + 1)) - (nI (nS z r0))) : Int32) = (side z r0 k0) := by exact sd_eq _ _
  exact kr_iret hx hb hrt hlocks e_1 rfl dL_side_13
set_option maxHeartbeats 4000000 in
set_option maxRecDepth 100000 in
theorem c_L_inWay (l : Launch) (D : va_G) (cI cC cH cL : ClassId) (na : Nat) (ra : Nat) (nf : ZZ) (rf : ZZ) (a0 : Nat) (w0 : Nat) (r0 : Nat) (k0 : Nat) (z : ZZ) (nk : Nat) (hV : VAL z) (h6 : nR z ≤ 6) (hN : NN z nk nf) (hO : RO z rf) (ha : a0 < nR z) (hr : r0 < nR z) : Met l yL_inWay wsL_inWay ({ frames := 1, cells := 0, slots := 0, locals := 22 }) (kp [.ref na, .ref ra, .int (nI a0), .int (nI w0), .int (nI r0), .int (nI k0)] D ([(na, .inl (cI, 6, .inl nf))] ++ ([(ra, .inl (cI, 28, .inl rf))])) (kT cI cC cH cL)) (kr (.returned (some (.int (bI (blk z a0 w0 r0 k0)))))) 0 0 (fun _ => False) := by
  refine Met.ofW (cc := cL_inWay) (maxL := 11) (ret := (some .boolean)) (by decide) rfl ?_
  intro p e s m args below meth c s₁ B hml hv
  obtain ⟨rfl, hP, hK⟩ := hv
  have hx := B.exec
  have hb := B.bytes
  have hrt := B.returns
  have hts := atoms_spec (ws := wsL_inWay) B.pre
  have hown : s.vm.findClass RL = some m.cls := findClass_of_methodNamed B.named
  have hlocks := B.notSynchronized
  have hl := lv_entry ([.ref na, .ref ra, .int (nI a0), .int (nI w0), .int (nI r0), .int (nI k0)]) (n := 11) (Nat.le_of_ble_eq_true rfl)
  rw [lg_entry_eq]
  generalize (lg_sl ([.ref na, .ref ra, .int (nI a0), .int (nI w0), .int (nI r0), .int (nI k0)]) ++ List.replicate (11 - (lg_sl ([.ref na, .ref ra, .int (nI a0), .int (nI w0), .int (nI r0), .int (nI k0)])).length) Slot.unset).toArray = ls at hl ⊢
  have hl : lv_has ls 11 [(0, .ref na), (1, .ref ra), (2, .int (nI a0)), (3, .int (nI w0)), (4, .int (nI r0)), (5, .int (nI k0))] := hl
  have hw := hV.1
  have hR10 := wf_R10 hw
  have hC4 := wf_C4 hw
  refine lv_aload_n hx hb dL_inWay_0 rfl (lv_at hl 1 rfl) ?_
  refine lv_iconst (v := nI 4) hx hb dL_inWay_1 (by decide) ?_
  refine lv_iload_n hx hb dL_inWay_2 rfl (lv_at hl 2 rfl) ?_
  refine kx_imul hx hb dL_inWay_3 ?_
  refine kx_iald hx hb hK hP 1 0 rfl rfl (by omega) (by decide) dL_inWay_4 ?_
  refine kx_top (show (rf (4 * a0) : Int32) = z (5 + 4 * a0) from (ro_0 hO (by omega))) ?_
  refine lv_aload_n hx hb dL_inWay_5 rfl (lv_at hl 1 rfl) ?_
  refine lv_iconst (v := nI 4) hx hb dL_inWay_6 (by decide) ?_
  refine lv_iload hx hb dL_inWay_7 (lv_at hl 4 rfl) ?_
  refine kx_imul hx hb dL_inWay_9 ?_
  refine kx_iald hx hb hK hP 1 0 rfl rfl (by omega) (by decide) dL_inWay_10 ?_
  refine kx_top (show (rf (4 * r0) : Int32) = z (5 + 4 * r0) from (ro_0 hO (by omega))) ?_
  refine lv_icmp_lt (tgt := 16) hx hb dL_inWay_11 (by decide) (fun c_11_0 => ?_) (fun c_11_1 => ?_)
  · have c_11_0 : ((z (5 + 4 * a0)) : Int32) < (z (5 + 4 * r0)) := c_11_0
    refine lv_aload_n hx hb dL_inWay_16 rfl (lv_at hl 1 rfl) ?_
    refine lv_iconst (v := nI 4) hx hb dL_inWay_17 (by decide) ?_
    refine lv_iload_n hx hb dL_inWay_18 rfl (lv_at hl 2 rfl) ?_
    refine kx_imul hx hb dL_inWay_19 ?_
    refine lv_iconst (v := nI 1) hx hb dL_inWay_20 (by decide) ?_
    refine kx_iadd hx hb dL_inWay_21 ?_
    refine kx_iald hx hb hK hP 1 0 rfl rfl (by omega) (by decide) dL_inWay_22 ?_
    refine kx_top (show (rf ((4 * a0) + 1) : Int32) = z (5 + 4 * a0 + 1) from (ro_1 hO (by omega))) ?_
    refine lv_aload_n hx hb dL_inWay_23 rfl (lv_at hl 0 rfl) ?_
    refine lv_iconst (v := nI 4) hx hb dL_inWay_24 (by decide) ?_
    refine kx_iald hx hb hK hP 0 0 rfl rfl (by omega) (by decide) dL_inWay_25 ?_
    refine kx_top (show (nf 4 : Int32) = z 1 from hN.2.2.2.2.1) ?_
    refine lv_iadd hx hb dL_inWay_26 ?_
    refine lv_aload_n hx hb dL_inWay_27 rfl (lv_at hl 0 rfl) ?_
    refine lv_iconst (v := nI 5) hx hb dL_inWay_28 (by decide) ?_
    refine kx_iald hx hb hK hP 0 0 rfl rfl (by omega) (by decide) dL_inWay_29 ?_
    refine kx_top (show (nf 5 : Int32) = z 2 from hN.2.2.2.2.2) ?_
    refine lv_iadd hx hb dL_inWay_30 ?_
    refine lv_aload_n hx hb dL_inWay_31 rfl (lv_at hl 0 rfl) ?_
    refine lv_iconst (v := nI 3) hx hb dL_inWay_32 (by decide) ?_
    refine kx_iald hx hb hK hP 0 0 rfl rfl (by omega) (by decide) dL_inWay_33 ?_
    refine kx_top (show (nf 3 : Int32) = z 0 from hN.2.2.2.1) ?_
    refine lv_isub hx hb dL_inWay_34 ?_
    refine lv_i2l hx hb dL_inWay_35 rfl ?_
    refine lv_aload_n hx hb dL_inWay_36 rfl (lv_at hl 1 rfl) ?_
    refine lv_iconst (v := nI 4) hx hb dL_inWay_37 (by decide) ?_
    refine lv_iload hx hb dL_inWay_38 (lv_at hl 4 rfl) ?_
    refine kx_imul hx hb dL_inWay_40 ?_
    refine kx_iald hx hb hK hP 1 0 rfl rfl (by omega) (by decide) dL_inWay_41 ?_
    refine kx_top (show (rf (4 * r0) : Int32) = z (5 + 4 * r0) from (ro_0 hO (by omega))) ?_
    refine lv_i2l hx hb dL_inWay_42 rfl ?_
    refine lv_lmul hx hb dL_inWay_43 ?_
    refine lv_lstore (lv' := [(6, .long (((((((z (5 + 4 * a0 + 1)) + (z 1)) + (z 2)) - (z 0))).toInt64) * ((z (5 + 4 * r0)).toInt64))), (0, .ref na), (1, .ref ra), (2, .int (nI a0)), (3, .int (nI w0)), (4, .int (nI r0)), (5, .int (nI k0))]) hx hb dL_inWay_44 hl (by decide) rfl (fun ls hl => ?_)
    refine lv_aload_n hx hb dL_inWay_46 rfl (lv_at hl 2 rfl) ?_
    refine lv_iconst (v := nI 4) hx hb dL_inWay_47 (by decide) ?_
    refine lv_iload hx hb dL_inWay_48 (lv_at hl 5 rfl) ?_
    refine kx_imul hx hb dL_inWay_50 ?_
    refine lv_iconst (v := nI 1) hx hb dL_inWay_51 (by decide) ?_
    refine kx_iadd hx hb dL_inWay_52 ?_
    refine kx_iald hx hb hK hP 1 0 rfl rfl (by omega) (by decide) dL_inWay_53 ?_
    refine kx_top (show (rf ((4 * r0) + 1) : Int32) = z (5 + 4 * r0 + 1) from (ro_1 hO (by omega))) ?_
    refine lv_aload_n hx hb dL_inWay_54 rfl (lv_at hl 1 rfl) ?_
    refine lv_iconst (v := nI 4) hx hb dL_inWay_55 (by decide) ?_
    refine kx_iald hx hb hK hP 0 0 rfl rfl (by omega) (by decide) dL_inWay_56 ?_
    refine kx_top (show (nf 4 : Int32) = z 1 from hN.2.2.2.2.1) ?_
    refine lv_iadd hx hb dL_inWay_57 ?_
    refine lv_aload_n hx hb dL_inWay_58 rfl (lv_at hl 1 rfl) ?_
    refine lv_iconst (v := nI 3) hx hb dL_inWay_59 (by decide) ?_
    refine kx_iald hx hb hK hP 0 0 rfl rfl (by omega) (by decide) dL_inWay_60 ?_
    refine kx_top (show (nf 3 : Int32) = z 0 from hN.2.2.2.1) ?_
    refine lv_isub hx hb dL_inWay_61 ?_
    refine lv_i2l hx hb dL_inWay_62 rfl ?_
    refine lv_aload_n hx hb dL_inWay_63 rfl (lv_at hl 2 rfl) ?_
    refine lv_iconst (v := nI 4) hx hb dL_inWay_64 (by decide) ?_
    refine lv_iload_n hx hb dL_inWay_65 rfl (lv_at hl 3 rfl) ?_
    refine kx_imul hx hb dL_inWay_66 ?_
    refine kx_iald hx hb hK hP 1 0 rfl rfl (by omega) (by decide) dL_inWay_67 ?_
    refine kx_top (show (rf (4 * a0) : Int32) = z (5 + 4 * a0) from (ro_0 hO (by omega))) ?_
    refine lv_i2l hx hb dL_inWay_68 rfl ?_
    refine lv_lmul hx hb dL_inWay_69 ?_
    refine lv_lstore (lv' := [(8, .long ((((((z (5 + 4 * r0 + 1)) + (z 1)) - (z 0))).toInt64) * ((z (5 + 4 * a0)).toInt64))), (6, .long (((((((z (5 + 4 * a0 + 1)) + (z 1)) + (z 2)) - (z 0))).toInt64) * ((z (5 + 4 * r0)).toInt64))), (0, .ref na), (1, .ref ra), (2, .int (nI a0)), (3, .int (nI w0)), (4, .int (nI r0)), (5, .int (nI k0))]) hx hb dL_inWay_70 hl (by decide) rfl (fun ls hl => ?_)
    refine lv_aload_n hx hb dL_inWay_72 rfl (lv_at hl 3 rfl) ?_
    refine lv_iload_n hx hb dL_inWay_73 rfl (lv_at hl 4 rfl) ?_
    refine lv_iload_n hx hb dL_inWay_74 rfl (lv_at hl 5 rfl) ?_
    refine kr_S (As := [.ref ra, .int (nI a0), .int (nI w0)]) (rest := []) (own := RL) ⟨hx, hb, hml, hown, hts⟩ (c_L_side l D cI cC cH cL ra rf a0 w0 z (by first | assumption | omega) (by first | assumption | omega) (by first | assumption | omega) (by first | assumption | omega)) (va_cwS 3 hts gL_inWay_L_side rfl rfl rfl k_L_sideS ⟨Nat.le_of_ble_eq_true rfl, Nat.le_of_ble_eq_true rfl⟩) (hP.sub (ws' := ([(ra, .inl (cI, 28, .inl rf))])) [1] rfl) hK rfl hl.1 rfl (Nat.le_of_ble_eq_true rfl) dL_inWay_75 ⟨Nat.le_of_ble_eq_true rfl, Nat.le_of_ble_eq_true rfl⟩ ?_
    refine lv_aload_n hx hb dL_inWay_78 rfl (lv_at hl 3 rfl) ?_
    refine lv_iconst (v := nI 4) hx hb dL_inWay_79 (by decide) ?_
    refine lv_iload hx hb dL_inWay_80 (lv_at hl 6 rfl) ?_
    refine kx_imul hx hb dL_inWay_82 ?_
    refine kx_iald hx hb hK hP 1 0 rfl rfl (by omega) (by decide) dL_inWay_83 ?_
    refine kx_top (show (rf (4 * r0) : Int32) = z (5 + 4 * r0) from (ro_0 hO (by omega))) ?_
    refine lv_imul hx hb dL_inWay_84 ?_
    refine lv_aload_n hx hb dL_inWay_85 rfl (lv_at hl 3 rfl) ?_
    refine lv_iload hx hb dL_inWay_86 (lv_at hl 6 rfl) ?_
    refine lv_iload hx hb dL_inWay_88 (lv_at hl 7 rfl) ?_
    refine kr_S (As := [.ref ra, .int (nI r0), .int (nI k0)]) (rest := [.int ((side z a0 w0) * (z (5 + 4 * r0)))]) (own := RL) ⟨hx, hb, hml, hown, hts⟩ (c_L_side l D cI cC cH cL ra rf r0 k0 z (by first | assumption | omega) (by first | assumption | omega) (by first | assumption | omega) (by first | assumption | omega)) (va_cwS 3 hts gL_inWay_L_side rfl rfl rfl k_L_sideS ⟨Nat.le_of_ble_eq_true rfl, Nat.le_of_ble_eq_true rfl⟩) (hP.sub (ws' := ([(ra, .inl (cI, 28, .inl rf))])) [1] rfl) hK rfl hl.1 rfl (Nat.le_of_ble_eq_true rfl) dL_inWay_90 ⟨Nat.le_of_ble_eq_true rfl, Nat.le_of_ble_eq_true rfl⟩ ?_
    refine lv_aload_n hx hb dL_inWay_93 rfl (lv_at hl 3 rfl) ?_
    refine lv_iconst (v := nI 4) hx hb dL_inWay_94 (by decide) ?_
    refine lv_iload_n hx hb dL_inWay_95 rfl (lv_at hl 4 rfl) ?_
    refine kx_imul hx hb dL_inWay_96 ?_
    refine kx_iald hx hb hK hP 1 0 rfl rfl (by omega) (by decide) dL_inWay_97 ?_
    refine kx_top (show (rf (4 * a0) : Int32) = z (5 + 4 * a0) from (ro_0 hO (by omega))) ?_
    refine lv_imul hx hb dL_inWay_98 ?_
    refine lv_isub hx hb dL_inWay_99 ?_
    refine lv_istore (lv' := [(10, .int (((side z a0 w0) * (z (5 + 4 * r0))) - ((side z r0 k0) * (z (5 + 4 * a0))))), (8, .long ((((((z (5 + 4 * r0 + 1)) + (z 1)) - (z 0))).toInt64) * ((z (5 + 4 * a0)).toInt64))), (6, .long (((((((z (5 + 4 * a0 + 1)) + (z 1)) + (z 2)) - (z 0))).toInt64) * ((z (5 + 4 * r0)).toInt64))), (0, .ref na), (1, .ref ra), (2, .int (nI a0)), (3, .int (nI w0)), (4, .int (nI r0)), (5, .int (nI k0))]) hx hb dL_inWay_100 hl (by decide) rfl (fun ls hl => ?_)
    refine lv_lload hx hb dL_inWay_102 (lv_at hl 2 rfl) ?_
    refine lv_lload hx hb dL_inWay_104 (lv_at hl 1 rfl) ?_
    refine kx_lcmp hx hb dL_inWay_106 ?_
    refine lv_if_le (tgt := 137) hx hb dL_inWay_107 (by decide) (fun c_107_2 => ?_) (fun c_107_3 => ?_)
    · have c_107_2 : ((lcI (((((((z (5 + 4 * a0 + 1)) + (z 1)) + (z 2)) - (z 0))).toInt64) * ((z (5 + 4 * r0)).toInt64)) ((((((z (5 + 4 * r0 + 1)) + (z 1)) - (z 0))).toInt64) * ((z (5 + 4 * a0)).toInt64))) : Int32) ≤ 0 := c_107_2
      refine lv_iconst (v := nI 0) hx hb dL_inWay_137 (by decide) ?_
      have e_4 : (false : Bool) = (blk z a0 w0 r0 k0) := by rw [blk_law hV ha hr]; unfold headP eyeP; rw [decide_eq_true c_11_0, decide_eq_true c_107_2]; rfl
      exact kr_zret hx hb hrt hlocks (congrArg bI e_4) rfl dL_inWay_138
    · have c_107_3 : ¬ ((lcI (((((((z (5 + 4 * a0 + 1)) + (z 1)) + (z 2)) - (z 0))).toInt64) * ((z (5 + 4 * r0)).toInt64)) ((((((z (5 + 4 * r0 + 1)) + (z 1)) - (z 0))).toInt64) * ((z (5 + 4 * a0)).toInt64))) : Int32) ≤ 0 := c_107_3
      refine lv_iload hx hb dL_inWay_110 (lv_at hl 0 rfl) ?_
      refine lv_aload_n hx hb dL_inWay_112 rfl (lv_at hl 4 rfl) ?_
      refine lv_iconst (v := nI 4) hx hb dL_inWay_113 (by decide) ?_
      refine lv_iload hx hb dL_inWay_114 (lv_at hl 7 rfl) ?_
      refine kx_imul hx hb dL_inWay_116 ?_
      refine kx_iald hx hb hK hP 1 0 rfl rfl (by omega) (by decide) dL_inWay_117 ?_
      refine kx_top (show (rf (4 * r0) : Int32) = z (5 + 4 * r0) from (ro_0 hO (by omega))) ?_
      refine lv_icmp_ge (tgt := 137) hx hb dL_inWay_118 (by decide) (fun c_118_5 => ?_) (fun c_118_6 => ?_)
      · have c_118_5 : ((z (5 + 4 * r0)) : Int32) ≤ (((side z a0 w0) * (z (5 + 4 * r0))) - ((side z r0 k0) * (z (5 + 4 * a0)))) := c_118_5
        refine lv_iconst (v := nI 0) hx hb dL_inWay_137 (by decide) ?_
        have e_7 : (false : Bool) = (blk z a0 w0 r0 k0) := by rw [blk_law hV ha hr]; unfold headP eyeP; rw [decide_eq_true c_11_0, decide_eq_false c_107_3, decide_eq_false (Int32.not_lt.mpr c_118_5)]; rfl
        exact kr_zret hx hb hrt hlocks (congrArg bI e_7) rfl dL_inWay_138
      · have c_118_6 : ¬ ((z (5 + 4 * r0)) : Int32) ≤ (((side z a0 w0) * (z (5 + 4 * r0))) - ((side z r0 k0) * (z (5 + 4 * a0)))) := c_118_6
        refine lv_iload hx hb dL_inWay_121 (lv_at hl 0 rfl) ?_
        refine lv_ineg hx hb dL_inWay_123 ?_
        refine lv_aload_n hx hb dL_inWay_124 rfl (lv_at hl 4 rfl) ?_
        refine lv_iconst (v := nI 4) hx hb dL_inWay_125 (by decide) ?_
        refine lv_iload hx hb dL_inWay_126 (lv_at hl 7 rfl) ?_
        refine kx_imul hx hb dL_inWay_128 ?_
        refine kx_iald hx hb hK hP 1 0 rfl rfl (by omega) (by decide) dL_inWay_129 ?_
        refine kx_top (show (rf (4 * r0) : Int32) = z (5 + 4 * r0) from (ro_0 hO (by omega))) ?_
        refine lv_icmp_ge (tgt := 137) hx hb dL_inWay_130 (by decide) (fun c_130_8 => ?_) (fun c_130_9 => ?_)
        · have c_130_8 : ((z (5 + 4 * r0)) : Int32) ≤ (-(((side z a0 w0) * (z (5 + 4 * r0))) - ((side z r0 k0) * (z (5 + 4 * a0))))) := c_130_8
          refine lv_iconst (v := nI 0) hx hb dL_inWay_137 (by decide) ?_
          have e_10 : (false : Bool) = (blk z a0 w0 r0 k0) := by rw [blk_law hV ha hr]; unfold headP eyeP; rw [decide_eq_true c_11_0, decide_eq_false c_107_3, decide_eq_true (Int32.not_le.mp c_118_6), decide_eq_false (Int32.not_lt.mpr c_130_8)]; rfl
          exact kr_zret hx hb hrt hlocks (congrArg bI e_10) rfl dL_inWay_138
        · have c_130_9 : ¬ ((z (5 + 4 * r0)) : Int32) ≤ (-(((side z a0 w0) * (z (5 + 4 * r0))) - ((side z r0 k0) * (z (5 + 4 * a0))))) := c_130_9
          refine lv_iconst (v := nI 1) hx hb dL_inWay_133 (by decide) ?_
          refine lv_goto (tgt := 138) hx hb dL_inWay_134 (by decide) ?_
          have e_11 : (true : Bool) = (blk z a0 w0 r0 k0) := by rw [blk_law hV ha hr]; unfold headP eyeP; rw [decide_eq_true c_11_0, decide_eq_false c_107_3, decide_eq_true (Int32.not_le.mp c_118_6), decide_eq_true (Int32.not_le.mp c_130_9)]; rfl
          exact kr_zret hx hb hrt hlocks (congrArg bI e_11) rfl dL_inWay_138
  · have c_11_1 : ¬ ((z (5 + 4 * a0)) : Int32) < (z (5 + 4 * r0)) := c_11_1
    refine lv_iconst (v := nI 0) hx hb dL_inWay_14 (by decide) ?_
    have e_12 : (false : Bool) = (blk z a0 w0 r0 k0) := by rw [blk_law hV ha hr, decide_eq_false c_11_1]; rfl
    exact kr_zret hx hb hrt hlocks (congrArg bI e_12) rfl dL_inWay_15
set_option maxHeartbeats 4000000 in
set_option maxRecDepth 100000 in
theorem c_L_people (l : Launch) (D : va_G) (cI cC cH cL : ClassId) (na : Nat) (ra : Nat) (nf : ZZ) (rf : ZZ) (r0 : Nat) (k0 : Nat) (z : ZZ) (nk : Nat) (hV : VAL z) (h6 : nR z ≤ 6) (hN : NN z nk nf) (hO : RO z rf) (hr : r0 < nR z) : Met l yL_people wsL_people ({ frames := 2, cells := 0, slots := 0, locals := 52 }) (kp [.ref na, .ref ra, .int (nI r0), .int (nI k0)] D ([(na, .inl (cI, 6, .inl nf))] ++ ([(ra, .inl (cI, 28, .inl rf))])) (kT cI cC cH cL)) (kr (.returned (some (.int (nI (people z r0 k0)))))) 0 0 (fun _ => False) := by
  refine Met.ofW (cc := cL_people) (maxL := 7) (ret := (some .int)) (by decide) rfl ?_
  intro p e s m args below meth c s₁ B hml hv
  obtain ⟨rfl, hP, hK⟩ := hv
  have hx := B.exec
  have hb := B.bytes
  have hrt := B.returns
  have hts := atoms_spec (ws := wsL_people) B.pre
  have hown : s.vm.findClass RL = some m.cls := findClass_of_methodNamed B.named
  have hlocks := B.notSynchronized
  have hl := lv_entry ([.ref na, .ref ra, .int (nI r0), .int (nI k0)]) (n := 7) (Nat.le_of_ble_eq_true rfl)
  rw [lg_entry_eq]
  generalize (lg_sl ([.ref na, .ref ra, .int (nI r0), .int (nI k0)]) ++ List.replicate (7 - (lg_sl ([.ref na, .ref ra, .int (nI r0), .int (nI k0)])).length) Slot.unset).toArray = ls at hl ⊢
  have hl : lv_has ls 7 [(0, .ref na), (1, .ref ra), (2, .int (nI r0)), (3, .int (nI k0))] := hl
  have hw := hV.1
  have hR10 := wf_R10 hw
  have hC4 := wf_C4 hw
  refine lv_iconst (v := nI 0) hx hb dL_people_0 (by decide) ?_
  refine lv_istore (lv' := [(4, .int (nI 0)), (0, .ref na), (1, .ref ra), (2, .int (nI r0)), (3, .int (nI k0))]) hx hb dL_people_1 hl (by decide) rfl (fun ls hl => ?_)
  refine lv_iconst (v := nI 0) hx hb dL_people_3 (by decide) ?_
  refine lv_istore (lv' := [(5, .int (nI 0)), (4, .int (nI 0)), (0, .ref na), (1, .ref ra), (2, .int (nI r0)), (3, .int (nI k0))]) hx hb dL_people_4 hl (by decide) rfl (fun ls hl => ?_)
  have e6_0 : (0 : Nat) = (sumN 0 (fun a => pplA z a r0 k0)) := by first | rfl | omega | (simp [sumN_s, Int32.not_lt, Int32.not_le]; done) | (simp [sumN_s, Int32.not_lt, Int32.not_le]; omega)
  have hl6_1 : lv_has ls 7 [(0, .ref na), (1, .ref ra), (2, .int (nI r0)), (3, .int (nI k0)), (4, .int (nI (sumN 0 (fun a => pplA z a r0 k0)))), (5, .int (nI 0))] := lv_eqv (l1 := [(0, .ref na), (1, .ref ra), (2, .int (nI r0)), (3, .int (nI k0)), (4, .int (nI 0)), (5, .int (nI 0))]) (lv_sub hl [2, 3, 4, 5, 1, 0] rfl) (lv_ce rfl (lv_ce rfl (lv_ce rfl (lv_ce rfl (lv_ce (congrArg (fun x => Value.int (nI x)) e6_0) (lv_ce rfl rfl))))))
  refine kx_up (fun k ls => lv_has ls 7 [(0, .ref na), (1, .ref ra), (2, .int (nI r0)), (3, .int (nI k0)), (4, .int (nI (sumN k (fun a => pplA z a r0 k0)))), (5, .int (nI k))]) (0) (nR z) (by omega) ls (hl6_1) ?_
  intro ia ls hial hiah hp ih6
  have hl := hp
  refine lv_iload hx hb dL_people_6 (lv_at hl 5 rfl) ?_
  refine lv_aload_n hx hb dL_people_8 rfl (lv_at hl 0 rfl) ?_
  refine lv_iconst (v := nI 0) hx hb dL_people_9 (by decide) ?_
  refine kx_iald hx hb hK hP 0 0 rfl rfl (by omega) (by decide) dL_people_10 ?_
  refine kx_top (show (nf 0 : Int32) = nI (nR z) from hN.1) ?_
  refine kx_icmp_ge (tgt := 76) hx hb (by omega) (by omega) dL_people_11 (by decide) (fun c_11_2 => ?_) (fun c_11_3 => ?_)
  · have hq4 : nR z = ia := by omega
    subst hq4
    refine lv_iload hx hb dL_people_76 (lv_at hl 4 rfl) ?_
    have e_5 : (sumN (nR z) (fun a => pplA z a r0 k0) : Nat) = (people z r0 k0) := by exact ppl_all hr k0
    exact kr_iret hx hb hrt hlocks (congrArg nI e_5) rfl dL_people_78
  · refine lv_iconst (v := nI 0) hx hb dL_people_14 (by decide) ?_
    refine lv_istore (lv' := [(6, .int (nI 0)), (0, .ref na), (1, .ref ra), (2, .int (nI r0)), (3, .int (nI k0)), (4, .int (nI (sumN ia (fun a => pplA z a r0 k0)))), (5, .int (nI ia))]) hx hb dL_people_15 hl (by decide) rfl (fun ls hl => ?_)
    have e17_6 : (sumN ia (fun a => pplA z a r0 k0) : Nat) = (sumN ia (fun a => pplA z a r0 k0) + sumN 0 (fun w => b2 (tk z ia w && blk z ia w r0 k0))) := by first | rfl | (rw [sumN_s]; unfold tk b2; simp [c_11_3, Nat.not_le.mpr c_11_3]; done) | (rw [sumN_s]; unfold tk b2; simp [c_11_3, Nat.not_le.mpr c_11_3]; omega)
    have hl17_7 : lv_has ls 7 [(0, .ref na), (1, .ref ra), (2, .int (nI r0)), (3, .int (nI k0)), (5, .int (nI ia)), (4, .int (nI (sumN ia (fun a => pplA z a r0 k0) + sumN 0 (fun w => b2 (tk z ia w && blk z ia w r0 k0))))), (6, .int (nI 0))] := lv_eqv (l1 := [(0, .ref na), (1, .ref ra), (2, .int (nI r0)), (3, .int (nI k0)), (5, .int (nI ia)), (4, .int (nI (sumN ia (fun a => pplA z a r0 k0)))), (6, .int (nI 0))]) (lv_sub hl [1, 2, 3, 4, 6, 5, 0] rfl) (lv_ce rfl (lv_ce rfl (lv_ce rfl (lv_ce rfl (lv_ce rfl (lv_ce (congrArg (fun x => Value.int (nI x)) e17_6) (lv_ce rfl rfl)))))))
    refine kx_up (fun k ls => lv_has ls 7 [(0, .ref na), (1, .ref ra), (2, .int (nI r0)), (3, .int (nI k0)), (5, .int (nI ia)), (4, .int (nI (sumN ia (fun a => pplA z a r0 k0) + sumN k (fun w => b2 (tk z ia w && blk z ia w r0 k0))))), (6, .int (nI k))]) (0) (nS z ia) (by omega) ls (hl17_7) ?_
    intro iw ls hiwl hiwh hp ih17
    have hl := hp
    have hSi := wf_S12 hw (show ia < nR z by omega)
    refine lv_iload hx hb dL_people_17 (lv_at hl 6 rfl) ?_
    refine lv_aload_n hx hb dL_people_19 rfl (lv_at hl 1 rfl) ?_
    refine lv_iconst (v := nI 4) hx hb dL_people_20 (by decide) ?_
    refine lv_iload hx hb dL_people_21 (lv_at hl 4 rfl) ?_
    refine kx_imul hx hb dL_people_23 ?_
    refine lv_iconst (v := nI 2) hx hb dL_people_24 (by decide) ?_
    refine kx_iadd hx hb dL_people_25 ?_
    refine kx_iald hx hb hK hP 1 0 rfl rfl (by omega) (by decide) dL_people_26 ?_
    refine kx_top (show (rf ((4 * ia) + 2) : Int32) = nI (nS z ia) from (ro_2 hO hw (by omega))) ?_
    have hS9_8 := wf_S12 hw (show ia < nR z by omega)
    refine kx_icmp_ge (tgt := 70) hx hb (by omega) (by omega) dL_people_27 (by decide) (fun c_27_9 => ?_) (fun c_27_10 => ?_)
    · have hq11 : nS z ia = iw := by omega
      subst hq11
      refine lv_iinc (v := nI (ia + 1)) (lv' := [(5, .int (nI (ia + 1))), (0, .ref na), (1, .ref ra), (2, .int (nI r0)), (3, .int (nI k0)), (4, .int (nI (sumN ia (fun a => pplA z a r0 k0) + sumN (nS z ia) (fun w => b2 (tk z ia w && blk z ia w r0 k0))))), (6, .int (nI (nS z ia)))]) hx hb dL_people_70 hl (k := 4) rfl (kx_inc 1) (by decide) rfl (fun ls hl => ?_)
      refine lv_goto (tgt := 6) hx hb dL_people_73 (by decide) ?_
      have e6_12 : (sumN ia (fun a => pplA z a r0 k0) + sumN (nS z ia) (fun w => b2 (tk z ia w && blk z ia w r0 k0)) : Nat) = (sumN (ia + 1) (fun a => pplA z a r0 k0)) := by first | rfl | omega | (simp [sumN_s, Int32.not_lt, Int32.not_le, c_11_3, Nat.not_le.mpr c_11_3, c_27_9, Nat.not_lt.mpr c_27_9]; done) | (simp [sumN_s, Int32.not_lt, Int32.not_le, c_11_3, Nat.not_le.mpr c_11_3, c_27_9, Nat.not_lt.mpr c_27_9]; omega) | (revert c_11_3 c_27_9; simp +contextual [sumN_s, Int32.not_lt, Int32.not_le]; done) | (revert c_11_3 c_27_9; simp +contextual [sumN_s, Int32.not_lt, Int32.not_le]; omega)
      have e6_13 : (ia + 1 : Nat) = ((ia + 1)) := by first | rfl | omega | (simp [sumN_s, Int32.not_lt, Int32.not_le, c_11_3, Nat.not_le.mpr c_11_3, c_27_9, Nat.not_lt.mpr c_27_9]; done) | (simp [sumN_s, Int32.not_lt, Int32.not_le, c_11_3, Nat.not_le.mpr c_11_3, c_27_9, Nat.not_lt.mpr c_27_9]; omega) | (revert c_11_3 c_27_9; simp +contextual [sumN_s, Int32.not_lt, Int32.not_le]; done) | (revert c_11_3 c_27_9; simp +contextual [sumN_s, Int32.not_lt, Int32.not_le]; omega)
      have hl6_14 : lv_has ls 7 [(0, .ref na), (1, .ref ra), (2, .int (nI r0)), (3, .int (nI k0)), (4, .int (nI (sumN (ia + 1) (fun a => pplA z a r0 k0)))), (5, .int (nI (ia + 1)))] := lv_eqv (l1 := [(0, .ref na), (1, .ref ra), (2, .int (nI r0)), (3, .int (nI k0)), (4, .int (nI (sumN ia (fun a => pplA z a r0 k0) + sumN (nS z ia) (fun w => b2 (tk z ia w && blk z ia w r0 k0))))), (5, .int (nI (ia + 1)))]) (lv_sub hl [1, 2, 3, 4, 5, 0] rfl) (lv_ce rfl (lv_ce rfl (lv_ce rfl (lv_ce rfl (lv_ce (congrArg (fun x => Value.int (nI x)) e6_12) (lv_ce (congrArg (fun x => Value.int (nI x)) e6_13) rfl))))))
      exact ih6 _ (by omega) (hl6_14)
    · refine lv_aload_n hx hb dL_people_30 rfl (lv_at hl 1 rfl) ?_
      refine lv_iconst (v := nI 4) hx hb dL_people_31 (by decide) ?_
      refine lv_iload hx hb dL_people_32 (lv_at hl 4 rfl) ?_
      refine kx_imul hx hb dL_people_34 ?_
      refine lv_iconst (v := nI 3) hx hb dL_people_35 (by decide) ?_
      refine kx_iadd hx hb dL_people_36 ?_
      refine kx_iald hx hb hK hP 1 0 rfl rfl (by omega) (by decide) dL_people_37 ?_
      refine kx_top (show (rf ((4 * ia) + 3) : Int32) = z (5 + 4 * ia + 3) from (ro_3 hO (by omega))) ?_
      refine lv_iload hx hb dL_people_38 (lv_at hl 6 rfl) ?_
      refine lv_ishr hx hb dL_people_40 ?_
      refine lv_iconst (v := nI 1) hx hb dL_people_41 (by decide) ?_
      refine lv_iand hx hb dL_people_42 ?_
      refine lv_iconst (v := nI 1) hx hb dL_people_43 (by decide) ?_
      refine lv_icmp_ne (tgt := 64) hx hb dL_people_44 (by decide) (fun c_44_15 => ?_) (fun c_44_16 => ?_)
      · have c_44_15 : ¬ ((((z (5 + 4 * ia + 3)) >>> ((nI iw) &&& 31)) &&& (nI 1)) : Int32) = (nI 1) := c_44_15
        refine lv_iinc (v := nI (iw + 1)) (lv' := [(6, .int (nI (iw + 1))), (0, .ref na), (1, .ref ra), (2, .int (nI r0)), (3, .int (nI k0)), (5, .int (nI ia)), (4, .int (nI (sumN ia (fun a => pplA z a r0 k0) + sumN iw (fun w => b2 (tk z ia w && blk z ia w r0 k0)))))]) hx hb dL_people_64 hl (k := 6) rfl (kx_inc 1) (by decide) rfl (fun ls hl => ?_)
        refine lv_goto (tgt := 17) hx hb dL_people_67 (by decide) ?_
        have e17_17 : (sumN ia (fun a => pplA z a r0 k0) + sumN iw (fun w => b2 (tk z ia w && blk z ia w r0 k0)) : Nat) = (sumN ia (fun a => pplA z a r0 k0) + sumN (iw + 1) (fun w => b2 (tk z ia w && blk z ia w r0 k0))) := by first | rfl | (rw [sumN_s]; unfold tk b2; simp [c_11_3, Nat.not_le.mpr c_11_3, c_27_10, Nat.not_le.mpr c_27_10, c_44_15]; done) | (rw [sumN_s]; unfold tk b2; simp [c_11_3, Nat.not_le.mpr c_11_3, c_27_10, Nat.not_le.mpr c_27_10, c_44_15]; omega)
        have e17_18 : (iw + 1 : Nat) = ((iw + 1)) := by first | rfl | omega | (simp [sumN_s, Int32.not_lt, Int32.not_le, c_11_3, Nat.not_le.mpr c_11_3, c_27_10, Nat.not_le.mpr c_27_10, c_44_15]; done) | (simp [sumN_s, Int32.not_lt, Int32.not_le, c_11_3, Nat.not_le.mpr c_11_3, c_27_10, Nat.not_le.mpr c_27_10, c_44_15]; omega) | (revert c_11_3 c_27_10 c_44_15; simp +contextual [sumN_s, Int32.not_lt, Int32.not_le]; done) | (revert c_11_3 c_27_10 c_44_15; simp +contextual [sumN_s, Int32.not_lt, Int32.not_le]; omega)
        have hl17_19 : lv_has ls 7 [(0, .ref na), (1, .ref ra), (2, .int (nI r0)), (3, .int (nI k0)), (5, .int (nI ia)), (4, .int (nI (sumN ia (fun a => pplA z a r0 k0) + sumN (iw + 1) (fun w => b2 (tk z ia w && blk z ia w r0 k0))))), (6, .int (nI (iw + 1)))] := lv_eqv (l1 := [(0, .ref na), (1, .ref ra), (2, .int (nI r0)), (3, .int (nI k0)), (5, .int (nI ia)), (4, .int (nI (sumN ia (fun a => pplA z a r0 k0) + sumN iw (fun w => b2 (tk z ia w && blk z ia w r0 k0))))), (6, .int (nI (iw + 1)))]) (lv_sub hl [1, 2, 3, 4, 5, 6, 0] rfl) (lv_ce rfl (lv_ce rfl (lv_ce rfl (lv_ce rfl (lv_ce rfl (lv_ce (congrArg (fun x => Value.int (nI x)) e17_17) (lv_ce (congrArg (fun x => Value.int (nI x)) e17_18) rfl)))))))
        exact ih17 _ (by omega) (hl17_19)
      · have c_44_16 : ((((z (5 + 4 * ia + 3)) >>> ((nI iw) &&& 31)) &&& (nI 1)) : Int32) = (nI 1) := c_44_16
        refine lv_aload_n hx hb dL_people_47 rfl (lv_at hl 0 rfl) ?_
        refine lv_aload_n hx hb dL_people_48 rfl (lv_at hl 1 rfl) ?_
        refine lv_iload hx hb dL_people_49 (lv_at hl 4 rfl) ?_
        refine lv_iload hx hb dL_people_51 (lv_at hl 6 rfl) ?_
        refine lv_iload_n hx hb dL_people_53 rfl (lv_at hl 2 rfl) ?_
        refine lv_iload_n hx hb dL_people_54 rfl (lv_at hl 3 rfl) ?_
        refine kr_S (As := [.ref na, .ref ra, .int (nI ia), .int (nI iw), .int (nI r0), .int (nI k0)]) (rest := []) (own := RL) ⟨hx, hb, hml, hown, hts⟩ (c_L_inWay l D cI cC cH cL na ra nf rf ia iw r0 k0 z nk (by first | assumption | omega) (by first | assumption | omega) (by first | assumption | omega) (by first | assumption | omega) (by first | assumption | omega) (by first | assumption | omega)) (va_cwS 6 hts gL_people_L_inWay rfl rfl rfl k_L_inWayS ⟨Nat.le_of_ble_eq_true rfl, Nat.le_of_ble_eq_true rfl⟩) hP hK rfl hl.1 rfl (Nat.le_of_ble_eq_true rfl) dL_people_55 ⟨Nat.le_of_ble_eq_true rfl, Nat.le_of_ble_eq_true rfl⟩ ?_
        refine kx_if_eqb (tgt := 64) hx hb dL_people_58 (by decide) (fun c_58_20 => ?_) (fun c_58_21 => ?_)
        · refine lv_iinc (v := nI (iw + 1)) (lv' := [(6, .int (nI (iw + 1))), (0, .ref na), (1, .ref ra), (2, .int (nI r0)), (3, .int (nI k0)), (5, .int (nI ia)), (4, .int (nI (sumN ia (fun a => pplA z a r0 k0) + sumN iw (fun w => b2 (tk z ia w && blk z ia w r0 k0)))))]) hx hb dL_people_64 hl (k := 6) rfl (kx_inc 1) (by decide) rfl (fun ls hl => ?_)
          refine lv_goto (tgt := 17) hx hb dL_people_67 (by decide) ?_
          have e17_22 : (sumN ia (fun a => pplA z a r0 k0) + sumN iw (fun w => b2 (tk z ia w && blk z ia w r0 k0)) : Nat) = (sumN ia (fun a => pplA z a r0 k0) + sumN (iw + 1) (fun w => b2 (tk z ia w && blk z ia w r0 k0))) := by first | rfl | (rw [sumN_s]; unfold tk b2; simp [c_11_3, Nat.not_le.mpr c_11_3, c_27_10, Nat.not_le.mpr c_27_10, c_44_16, c_58_20]; done) | (rw [sumN_s]; unfold tk b2; simp [c_11_3, Nat.not_le.mpr c_11_3, c_27_10, Nat.not_le.mpr c_27_10, c_44_16, c_58_20]; omega)
          have e17_23 : (iw + 1 : Nat) = ((iw + 1)) := by first | rfl | omega | (simp [sumN_s, Int32.not_lt, Int32.not_le, c_11_3, Nat.not_le.mpr c_11_3, c_27_10, Nat.not_le.mpr c_27_10, c_44_16, c_58_20]; done) | (simp [sumN_s, Int32.not_lt, Int32.not_le, c_11_3, Nat.not_le.mpr c_11_3, c_27_10, Nat.not_le.mpr c_27_10, c_44_16, c_58_20]; omega) | (revert c_11_3 c_27_10 c_44_16 c_58_20; simp +contextual [sumN_s, Int32.not_lt, Int32.not_le]; done) | (revert c_11_3 c_27_10 c_44_16 c_58_20; simp +contextual [sumN_s, Int32.not_lt, Int32.not_le]; omega)
          have hl17_24 : lv_has ls 7 [(0, .ref na), (1, .ref ra), (2, .int (nI r0)), (3, .int (nI k0)), (5, .int (nI ia)), (4, .int (nI (sumN ia (fun a => pplA z a r0 k0) + sumN (iw + 1) (fun w => b2 (tk z ia w && blk z ia w r0 k0))))), (6, .int (nI (iw + 1)))] := lv_eqv (l1 := [(0, .ref na), (1, .ref ra), (2, .int (nI r0)), (3, .int (nI k0)), (5, .int (nI ia)), (4, .int (nI (sumN ia (fun a => pplA z a r0 k0) + sumN iw (fun w => b2 (tk z ia w && blk z ia w r0 k0))))), (6, .int (nI (iw + 1)))]) (lv_sub hl [1, 2, 3, 4, 5, 6, 0] rfl) (lv_ce rfl (lv_ce rfl (lv_ce rfl (lv_ce rfl (lv_ce rfl (lv_ce (congrArg (fun x => Value.int (nI x)) e17_22) (lv_ce (congrArg (fun x => Value.int (nI x)) e17_23) rfl)))))))
          exact ih17 _ (by omega) (hl17_24)
        · refine lv_iinc (v := nI ((sumN ia (fun a => pplA z a r0 k0) + sumN iw (fun w => b2 (tk z ia w && blk z ia w r0 k0))) + 1)) (lv' := [(4, .int (nI ((sumN ia (fun a => pplA z a r0 k0) + sumN iw (fun w => b2 (tk z ia w && blk z ia w r0 k0))) + 1))), (0, .ref na), (1, .ref ra), (2, .int (nI r0)), (3, .int (nI k0)), (5, .int (nI ia)), (6, .int (nI iw))]) hx hb dL_people_61 hl (k := 5) rfl (kx_inc 1) (by decide) rfl (fun ls hl => ?_)
          refine lv_iinc (v := nI (iw + 1)) (lv' := [(6, .int (nI (iw + 1))), (4, .int (nI ((sumN ia (fun a => pplA z a r0 k0) + sumN iw (fun w => b2 (tk z ia w && blk z ia w r0 k0))) + 1))), (0, .ref na), (1, .ref ra), (2, .int (nI r0)), (3, .int (nI k0)), (5, .int (nI ia))]) hx hb dL_people_64 hl (k := 6) rfl (kx_inc 1) (by decide) rfl (fun ls hl => ?_)
          refine lv_goto (tgt := 17) hx hb dL_people_67 (by decide) ?_
          have e17_25 : ((sumN ia (fun a => pplA z a r0 k0) + sumN iw (fun w => b2 (tk z ia w && blk z ia w r0 k0))) + 1 : Nat) = (sumN ia (fun a => pplA z a r0 k0) + sumN (iw + 1) (fun w => b2 (tk z ia w && blk z ia w r0 k0))) := by first | rfl | (rw [sumN_s]; unfold tk b2; simp [c_11_3, Nat.not_le.mpr c_11_3, c_27_10, Nat.not_le.mpr c_27_10, c_44_16, c_58_21]; done) | (rw [sumN_s]; unfold tk b2; simp [c_11_3, Nat.not_le.mpr c_11_3, c_27_10, Nat.not_le.mpr c_27_10, c_44_16, c_58_21]; omega)
          have e17_26 : (iw + 1 : Nat) = ((iw + 1)) := by first | rfl | omega | (simp [sumN_s, Int32.not_lt, Int32.not_le, c_11_3, Nat.not_le.mpr c_11_3, c_27_10, Nat.not_le.mpr c_27_10, c_44_16, c_58_21]; done) | (simp [sumN_s, Int32.not_lt, Int32.not_le, c_11_3, Nat.not_le.mpr c_11_3, c_27_10, Nat.not_le.mpr c_27_10, c_44_16, c_58_21]; omega) | (revert c_11_3 c_27_10 c_44_16 c_58_21; simp +contextual [sumN_s, Int32.not_lt, Int32.not_le]; done) | (revert c_11_3 c_27_10 c_44_16 c_58_21; simp +contextual [sumN_s, Int32.not_lt, Int32.not_le]; omega)
          have hl17_27 : lv_has ls 7 [(0, .ref na), (1, .ref ra), (2, .int (nI r0)), (3, .int (nI k0)), (5, .int (nI ia)), (4, .int (nI (sumN ia (fun a => pplA z a r0 k0) + sumN (iw + 1) (fun w => b2 (tk z ia w && blk z ia w r0 k0))))), (6, .int (nI (iw + 1)))] := lv_eqv (l1 := [(0, .ref na), (1, .ref ra), (2, .int (nI r0)), (3, .int (nI k0)), (5, .int (nI ia)), (4, .int (nI ((sumN ia (fun a => pplA z a r0 k0) + sumN iw (fun w => b2 (tk z ia w && blk z ia w r0 k0))) + 1))), (6, .int (nI (iw + 1)))]) (lv_sub hl [2, 3, 4, 5, 6, 1, 0] rfl) (lv_ce rfl (lv_ce rfl (lv_ce rfl (lv_ce rfl (lv_ce rfl (lv_ce (congrArg (fun x => Value.int (nI x)) e17_25) (lv_ce (congrArg (fun x => Value.int (nI x)) e17_26) rfl)))))))
          exact ih17 _ (by omega) (hl17_27)
set_option maxHeartbeats 4000000 in
set_option maxRecDepth 100000 in
theorem c_L_columns (l : Launch) (D : va_G) (cI cC cH cL : ClassId) (na : Nat) (ra : Nat) (ca : Nat) (nf : ZZ) (rf : ZZ) (cf : ZZ) (r0 : Nat) (k0 : Nat) (z : ZZ) (nk : Nat) (hV : VAL z) (h6 : nR z ≤ 6) (hN : NN z nk nf) (hO : RO z rf) (hC : CO z cf) (hr : r0 < nR z) : Met l yL_columns wsL_columns ({ frames := 1, cells := 0, slots := 0, locals := 22 }) (kp [.ref na, .ref ra, .ref ca, .int (nI r0), .int (nI k0)] D ([(na, .inl (cI, 6, .inl nf))] ++ ([(ra, .inl (cI, 28, .inl rf))] ++ ([(ca, .inl (cI, 15, .inl cf))]))) (kT cI cC cH cL)) (kr (.returned (some (.int (nI (colsW z r0 k0 (-1))))))) 0 0 (fun _ => False) := by
  refine Met.ofW (cc := cL_columns) (maxL := 9) (ret := (some .int)) (by decide) rfl ?_
  intro p e s m args below meth c s₁ B hml hv
  obtain ⟨rfl, hP, hK⟩ := hv
  have hx := B.exec
  have hb := B.bytes
  have hrt := B.returns
  have hts := atoms_spec (ws := wsL_columns) B.pre
  have hown : s.vm.findClass RL = some m.cls := findClass_of_methodNamed B.named
  have hlocks := B.notSynchronized
  have hl := lv_entry ([.ref na, .ref ra, .ref ca, .int (nI r0), .int (nI k0)]) (n := 9) (Nat.le_of_ble_eq_true rfl)
  rw [lg_entry_eq]
  generalize (lg_sl ([.ref na, .ref ra, .ref ca, .int (nI r0), .int (nI k0)]) ++ List.replicate (9 - (lg_sl ([.ref na, .ref ra, .ref ca, .int (nI r0), .int (nI k0)])).length) Slot.unset).toArray = ls at hl ⊢
  have hl : lv_has ls 9 [(0, .ref na), (1, .ref ra), (2, .ref ca), (3, .int (nI r0)), (4, .int (nI k0))] := hl
  have hw := hV.1
  have hR10 := wf_R10 hw
  have hC4 := wf_C4 hw
  refine lv_iconst (v := nI 0) hx hb dL_columns_0 (by decide) ?_
  refine lv_istore (lv' := [(5, .int (nI 0)), (0, .ref na), (1, .ref ra), (2, .ref ca), (3, .int (nI r0)), (4, .int (nI k0))]) hx hb dL_columns_1 hl (by decide) rfl (fun ls hl => ?_)
  refine lv_iconst (v := nI 0) hx hb dL_columns_3 (by decide) ?_
  refine lv_istore (lv' := [(6, .int (nI 0)), (5, .int (nI 0)), (0, .ref na), (1, .ref ra), (2, .ref ca), (3, .int (nI r0)), (4, .int (nI k0))]) hx hb dL_columns_4 hl (by decide) rfl (fun ls hl => ?_)
  have e6_0 : (0 : Nat) = (sumN 0 (fun k => b2 (cblk z k r0 k0))) := by first | rfl | omega
  have hl6_1 : lv_has ls 9 [(0, .ref na), (1, .ref ra), (2, .ref ca), (3, .int (nI r0)), (4, .int (nI k0)), (5, .int (nI (sumN 0 (fun k => b2 (cblk z k r0 k0))))), (6, .int (nI 0))] := lv_eqv (l1 := [(0, .ref na), (1, .ref ra), (2, .ref ca), (3, .int (nI r0)), (4, .int (nI k0)), (5, .int (nI 0)), (6, .int (nI 0))]) (lv_sub hl [2, 3, 4, 5, 6, 1, 0] rfl) (lv_ce rfl (lv_ce rfl (lv_ce rfl (lv_ce rfl (lv_ce rfl (lv_ce (congrArg (fun x => Value.int (nI x)) e6_0) (lv_ce rfl rfl)))))))
  refine kx_up (fun k ls => lv_has ls 9 [(0, .ref na), (1, .ref ra), (2, .ref ca), (3, .int (nI r0)), (4, .int (nI k0)), (5, .int (nI (sumN k (fun k => b2 (cblk z k r0 k0))))), (6, .int (nI k))]) (0) (nC z) (by omega) ls (hl6_1) ?_
  intro ik ls hikl hikh hp ih6
  have hl := hp
  refine lv_iload hx hb dL_columns_6 (lv_at hl 6 rfl) ?_
  refine lv_aload_n hx hb dL_columns_8 rfl (lv_at hl 0 rfl) ?_
  refine lv_iconst (v := nI 1) hx hb dL_columns_9 (by decide) ?_
  refine kx_iald hx hb hK hP 0 0 rfl rfl (by omega) (by decide) dL_columns_10 ?_
  refine kx_top (show (nf 1 : Int32) = nI (nC z) from hN.2.1) ?_
  refine kx_icmp_ge (tgt := 99) hx hb (by omega) (by omega) dL_columns_11 (by decide) (fun c_11_2 => ?_) (fun c_11_3 => ?_)
  · have hq4 : nC z = ik := by omega
    subst hq4
    refine lv_iload hx hb dL_columns_99 (lv_at hl 5 rfl) ?_
    have e_5 : (sumN (nC z) (fun k => b2 (cblk z k r0 k0)) : Nat) = (colsW z r0 k0 (-1)) := by exact colsN_W hw r0 k0
    exact kr_iret hx hb hrt hlocks (congrArg nI e_5) rfl dL_columns_101
  · refine lv_aload_n hx hb dL_columns_14 rfl (lv_at hl 2 rfl) ?_
    refine lv_iconst (v := nI 3) hx hb dL_columns_15 (by decide) ?_
    refine lv_iload hx hb dL_columns_16 (lv_at hl 6 rfl) ?_
    refine kx_imul hx hb dL_columns_18 ?_
    refine lv_iconst (v := nI 1) hx hb dL_columns_19 (by decide) ?_
    refine kx_iadd hx hb dL_columns_20 ?_
    refine kx_iald hx hb hK hP 2 0 rfl rfl (by omega) (by decide) dL_columns_21 ?_
    refine kx_top (show (cf ((3 * ik) + 1) : Int32) = z (45 + 3 * ik + 1) from (cz_1 hC (by omega))) ?_
    refine lv_aload_n hx hb dL_columns_22 rfl (lv_at hl 1 rfl) ?_
    refine lv_iconst (v := nI 4) hx hb dL_columns_23 (by decide) ?_
    refine lv_iload_n hx hb dL_columns_24 rfl (lv_at hl 3 rfl) ?_
    refine kx_imul hx hb dL_columns_25 ?_
    refine kx_iald hx hb hK hP 1 0 rfl rfl (by omega) (by decide) dL_columns_26 ?_
    refine kx_top (show (rf (4 * r0) : Int32) = z (5 + 4 * r0) from (ro_0 hO (by omega))) ?_
    refine lv_imul hx hb dL_columns_27 ?_
    refine lv_aload_n hx hb dL_columns_28 rfl (lv_at hl 1 rfl) ?_
    refine lv_iload_n hx hb dL_columns_29 rfl (lv_at hl 3 rfl) ?_
    refine lv_iload hx hb dL_columns_30 (lv_at hl 4 rfl) ?_
    refine kr_S (As := [.ref ra, .int (nI r0), .int (nI k0)]) (rest := [.int ((z (45 + 3 * ik + 1)) * (z (5 + 4 * r0)))]) (own := RL) ⟨hx, hb, hml, hown, hts⟩ (c_L_side l D cI cC cH cL ra rf r0 k0 z (by first | assumption | omega) (by first | assumption | omega) (by first | assumption | omega) (by first | assumption | omega)) (va_cwS 3 hts gL_columns_L_side rfl rfl rfl k_L_sideS ⟨Nat.le_of_ble_eq_true rfl, Nat.le_of_ble_eq_true rfl⟩) (hP.sub (ws' := ([(ra, .inl (cI, 28, .inl rf))])) [1] rfl) hK rfl hl.1 rfl (Nat.le_of_ble_eq_true rfl) dL_columns_32 ⟨Nat.le_of_ble_eq_true rfl, Nat.le_of_ble_eq_true rfl⟩ ?_
    refine lv_aload_n hx hb dL_columns_35 rfl (lv_at hl 2 rfl) ?_
    refine lv_iconst (v := nI 3) hx hb dL_columns_36 (by decide) ?_
    refine lv_iload hx hb dL_columns_37 (lv_at hl 6 rfl) ?_
    refine kx_imul hx hb dL_columns_39 ?_
    refine kx_iald hx hb hK hP 2 0 rfl rfl (by omega) (by decide) dL_columns_40 ?_
    refine kx_top (show (cf (3 * ik) : Int32) = z (45 + 3 * ik) from (cz_0 hC (by omega))) ?_
    refine lv_imul hx hb dL_columns_41 ?_
    refine lv_isub hx hb dL_columns_42 ?_
    refine lv_istore (lv' := [(7, .int (((z (45 + 3 * ik + 1)) * (z (5 + 4 * r0))) - ((side z r0 k0) * (z (45 + 3 * ik))))), (0, .ref na), (1, .ref ra), (2, .ref ca), (3, .int (nI r0)), (4, .int (nI k0)), (5, .int (nI (sumN ik (fun k => b2 (cblk z k r0 k0))))), (6, .int (nI ik))]) hx hb dL_columns_43 hl (by decide) rfl (fun ls hl => ?_)
    refine lv_aload_n hx hb dL_columns_45 rfl (lv_at hl 3 rfl) ?_
    refine lv_iconst (v := nI 3) hx hb dL_columns_46 (by decide) ?_
    refine lv_iload hx hb dL_columns_47 (lv_at hl 7 rfl) ?_
    refine kx_imul hx hb dL_columns_49 ?_
    refine lv_iconst (v := nI 2) hx hb dL_columns_50 (by decide) ?_
    refine kx_iadd hx hb dL_columns_51 ?_
    refine kx_iald hx hb hK hP 2 0 rfl rfl (by omega) (by decide) dL_columns_52 ?_
    refine kx_top (show (cf ((3 * ik) + 2) : Int32) = z (45 + 3 * ik + 2) from (cz_2 hC (by omega))) ?_
    refine lv_aload_n hx hb dL_columns_53 rfl (lv_at hl 2 rfl) ?_
    refine lv_iconst (v := nI 4) hx hb dL_columns_54 (by decide) ?_
    refine lv_iload_n hx hb dL_columns_55 rfl (lv_at hl 4 rfl) ?_
    refine kx_imul hx hb dL_columns_56 ?_
    refine kx_iald hx hb hK hP 1 0 rfl rfl (by omega) (by decide) dL_columns_57 ?_
    refine kx_top (show (rf (4 * r0) : Int32) = z (5 + 4 * r0) from (ro_0 hO (by omega))) ?_
    refine lv_imul hx hb dL_columns_58 ?_
    refine lv_istore (lv' := [(8, .int ((z (45 + 3 * ik + 2)) * (z (5 + 4 * r0)))), (7, .int (((z (45 + 3 * ik + 1)) * (z (5 + 4 * r0))) - ((side z r0 k0) * (z (45 + 3 * ik))))), (0, .ref na), (1, .ref ra), (2, .ref ca), (3, .int (nI r0)), (4, .int (nI k0)), (5, .int (nI (sumN ik (fun k => b2 (cblk z k r0 k0))))), (6, .int (nI ik))]) hx hb dL_columns_59 hl (by decide) rfl (fun ls hl => ?_)
    refine lv_aload_n hx hb dL_columns_61 rfl (lv_at hl 4 rfl) ?_
    refine lv_iconst (v := nI 3) hx hb dL_columns_62 (by decide) ?_
    refine lv_iload hx hb dL_columns_63 (lv_at hl 8 rfl) ?_
    refine kx_imul hx hb dL_columns_65 ?_
    refine kx_iald hx hb hK hP 2 0 rfl rfl (by omega) (by decide) dL_columns_66 ?_
    refine kx_top (show (cf (3 * ik) : Int32) = z (45 + 3 * ik) from (cz_0 hC (by omega))) ?_
    refine lv_aload_n hx hb dL_columns_67 rfl (lv_at hl 3 rfl) ?_
    refine lv_iconst (v := nI 4) hx hb dL_columns_68 (by decide) ?_
    refine lv_iload_n hx hb dL_columns_69 rfl (lv_at hl 5 rfl) ?_
    refine kx_imul hx hb dL_columns_70 ?_
    refine kx_iald hx hb hK hP 1 0 rfl rfl (by omega) (by decide) dL_columns_71 ?_
    refine kx_top (show (rf (4 * r0) : Int32) = z (5 + 4 * r0) from (ro_0 hO (by omega))) ?_
    refine lv_icmp_ge (tgt := 93) hx hb dL_columns_72 (by decide) (fun c_72_6 => ?_) (fun c_72_7 => ?_)
    · have c_72_6 : ((z (5 + 4 * r0)) : Int32) ≤ (z (45 + 3 * ik)) := c_72_6
      refine lv_iinc (v := nI (ik + 1)) (lv' := [(6, .int (nI (ik + 1))), (8, .int ((z (45 + 3 * ik + 2)) * (z (5 + 4 * r0)))), (7, .int (((z (45 + 3 * ik + 1)) * (z (5 + 4 * r0))) - ((side z r0 k0) * (z (45 + 3 * ik))))), (0, .ref na), (1, .ref ra), (2, .ref ca), (3, .int (nI r0)), (4, .int (nI k0)), (5, .int (nI (sumN ik (fun k => b2 (cblk z k r0 k0)))))]) hx hb dL_columns_93 hl (k := 8) rfl (kx_inc 1) (by decide) rfl (fun ls hl => ?_)
      refine lv_goto (tgt := 6) hx hb dL_columns_96 (by decide) ?_
      have e6_8 : (sumN ik (fun k => b2 (cblk z k r0 k0)) : Nat) = (sumN (ik + 1) (fun k => b2 (cblk z k r0 k0))) := by first | rfl | (rw [sumN_s]; show _ = _ + b2 (cblk z ik r0 k0); rw [cblk_law, decide_eq_false (Int32.not_lt.mpr c_72_6)]; rfl)
      have e6_9 : (ik + 1 : Nat) = ((ik + 1)) := by first | rfl | omega | (simp [Int32.not_lt, Int32.not_le, c_11_3, Nat.not_le.mpr c_11_3, c_72_6, Int32.not_lt.mpr c_72_6]; done) | (simp [Int32.not_lt, Int32.not_le, c_11_3, Nat.not_le.mpr c_11_3, c_72_6, Int32.not_lt.mpr c_72_6]; omega) | (revert c_11_3 c_72_6; simp +contextual [Int32.not_lt, Int32.not_le]; done) | (revert c_11_3 c_72_6; simp +contextual [Int32.not_lt, Int32.not_le]; omega)
      have hl6_10 : lv_has ls 9 [(0, .ref na), (1, .ref ra), (2, .ref ca), (3, .int (nI r0)), (4, .int (nI k0)), (5, .int (nI (sumN (ik + 1) (fun k => b2 (cblk z k r0 k0))))), (6, .int (nI (ik + 1)))] := lv_eqv (l1 := [(0, .ref na), (1, .ref ra), (2, .ref ca), (3, .int (nI r0)), (4, .int (nI k0)), (5, .int (nI (sumN ik (fun k => b2 (cblk z k r0 k0))))), (6, .int (nI (ik + 1)))]) (lv_sub hl [3, 4, 5, 6, 7, 8, 0] rfl) (lv_ce rfl (lv_ce rfl (lv_ce rfl (lv_ce rfl (lv_ce rfl (lv_ce (congrArg (fun x => Value.int (nI x)) e6_8) (lv_ce (congrArg (fun x => Value.int (nI x)) e6_9) rfl)))))))
      exact ih6 _ (by omega) (hl6_10)
    · have c_72_7 : ¬ ((z (5 + 4 * r0)) : Int32) ≤ (z (45 + 3 * ik)) := c_72_7
      refine lv_iload hx hb dL_columns_75 (lv_at hl 1 rfl) ?_
      refine lv_iload hx hb dL_columns_77 (lv_at hl 0 rfl) ?_
      refine lv_icmp_gt (tgt := 93) hx hb dL_columns_79 (by decide) (fun c_79_11 => ?_) (fun c_79_12 => ?_)
      · have c_79_11 : (((z (45 + 3 * ik + 2)) * (z (5 + 4 * r0))) : Int32) < (((z (45 + 3 * ik + 1)) * (z (5 + 4 * r0))) - ((side z r0 k0) * (z (45 + 3 * ik)))) := c_79_11
        refine lv_iinc (v := nI (ik + 1)) (lv' := [(6, .int (nI (ik + 1))), (8, .int ((z (45 + 3 * ik + 2)) * (z (5 + 4 * r0)))), (7, .int (((z (45 + 3 * ik + 1)) * (z (5 + 4 * r0))) - ((side z r0 k0) * (z (45 + 3 * ik))))), (0, .ref na), (1, .ref ra), (2, .ref ca), (3, .int (nI r0)), (4, .int (nI k0)), (5, .int (nI (sumN ik (fun k => b2 (cblk z k r0 k0)))))]) hx hb dL_columns_93 hl (k := 8) rfl (kx_inc 1) (by decide) rfl (fun ls hl => ?_)
        refine lv_goto (tgt := 6) hx hb dL_columns_96 (by decide) ?_
        have e6_13 : (sumN ik (fun k => b2 (cblk z k r0 k0)) : Nat) = (sumN (ik + 1) (fun k => b2 (cblk z k r0 k0))) := by first | rfl | (rw [sumN_s]; show _ = _ + b2 (cblk z ik r0 k0); rw [cblk_law, decide_eq_true (Int32.not_le.mp c_72_7), decide_eq_false (Int32.not_le.mpr c_79_11)]; rfl)
        have e6_14 : (ik + 1 : Nat) = ((ik + 1)) := by first | rfl | omega | (simp [Int32.not_lt, Int32.not_le, c_11_3, Nat.not_le.mpr c_11_3, c_72_7, Int32.not_le.mp c_72_7, c_79_11, Int32.not_le.mpr c_79_11]; done) | (simp [Int32.not_lt, Int32.not_le, c_11_3, Nat.not_le.mpr c_11_3, c_72_7, Int32.not_le.mp c_72_7, c_79_11, Int32.not_le.mpr c_79_11]; omega) | (revert c_11_3 c_72_7 c_79_11; simp +contextual [Int32.not_lt, Int32.not_le]; done) | (revert c_11_3 c_72_7 c_79_11; simp +contextual [Int32.not_lt, Int32.not_le]; omega)
        have hl6_15 : lv_has ls 9 [(0, .ref na), (1, .ref ra), (2, .ref ca), (3, .int (nI r0)), (4, .int (nI k0)), (5, .int (nI (sumN (ik + 1) (fun k => b2 (cblk z k r0 k0))))), (6, .int (nI (ik + 1)))] := lv_eqv (l1 := [(0, .ref na), (1, .ref ra), (2, .ref ca), (3, .int (nI r0)), (4, .int (nI k0)), (5, .int (nI (sumN ik (fun k => b2 (cblk z k r0 k0))))), (6, .int (nI (ik + 1)))]) (lv_sub hl [3, 4, 5, 6, 7, 8, 0] rfl) (lv_ce rfl (lv_ce rfl (lv_ce rfl (lv_ce rfl (lv_ce rfl (lv_ce (congrArg (fun x => Value.int (nI x)) e6_13) (lv_ce (congrArg (fun x => Value.int (nI x)) e6_14) rfl)))))))
        exact ih6 _ (by omega) (hl6_15)
      · have c_79_12 : ¬ (((z (45 + 3 * ik + 2)) * (z (5 + 4 * r0))) : Int32) < (((z (45 + 3 * ik + 1)) * (z (5 + 4 * r0))) - ((side z r0 k0) * (z (45 + 3 * ik)))) := c_79_12
        refine lv_iload hx hb dL_columns_82 (lv_at hl 1 rfl) ?_
        refine lv_ineg hx hb dL_columns_84 ?_
        refine lv_iload hx hb dL_columns_85 (lv_at hl 0 rfl) ?_
        refine lv_icmp_gt (tgt := 93) hx hb dL_columns_87 (by decide) (fun c_87_16 => ?_) (fun c_87_17 => ?_)
        · have c_87_16 : (((z (45 + 3 * ik + 2)) * (z (5 + 4 * r0))) : Int32) < (-(((z (45 + 3 * ik + 1)) * (z (5 + 4 * r0))) - ((side z r0 k0) * (z (45 + 3 * ik))))) := c_87_16
          refine lv_iinc (v := nI (ik + 1)) (lv' := [(6, .int (nI (ik + 1))), (8, .int ((z (45 + 3 * ik + 2)) * (z (5 + 4 * r0)))), (7, .int (((z (45 + 3 * ik + 1)) * (z (5 + 4 * r0))) - ((side z r0 k0) * (z (45 + 3 * ik))))), (0, .ref na), (1, .ref ra), (2, .ref ca), (3, .int (nI r0)), (4, .int (nI k0)), (5, .int (nI (sumN ik (fun k => b2 (cblk z k r0 k0)))))]) hx hb dL_columns_93 hl (k := 8) rfl (kx_inc 1) (by decide) rfl (fun ls hl => ?_)
          refine lv_goto (tgt := 6) hx hb dL_columns_96 (by decide) ?_
          have e6_18 : (sumN ik (fun k => b2 (cblk z k r0 k0)) : Nat) = (sumN (ik + 1) (fun k => b2 (cblk z k r0 k0))) := by first | rfl | (rw [sumN_s]; show _ = _ + b2 (cblk z ik r0 k0); rw [cblk_law, decide_eq_true (Int32.not_le.mp c_72_7), decide_eq_true (Int32.not_lt.mp c_79_12), decide_eq_false (Int32.not_le.mpr c_87_16)]; rfl)
          have e6_19 : (ik + 1 : Nat) = ((ik + 1)) := by first | rfl | omega | (simp [Int32.not_lt, Int32.not_le, c_11_3, Nat.not_le.mpr c_11_3, c_72_7, Int32.not_le.mp c_72_7, c_79_12, Int32.not_lt.mp c_79_12, c_87_16, Int32.not_le.mpr c_87_16]; done) | (simp [Int32.not_lt, Int32.not_le, c_11_3, Nat.not_le.mpr c_11_3, c_72_7, Int32.not_le.mp c_72_7, c_79_12, Int32.not_lt.mp c_79_12, c_87_16, Int32.not_le.mpr c_87_16]; omega) | (revert c_11_3 c_72_7 c_79_12 c_87_16; simp +contextual [Int32.not_lt, Int32.not_le]; done) | (revert c_11_3 c_72_7 c_79_12 c_87_16; simp +contextual [Int32.not_lt, Int32.not_le]; omega)
          have hl6_20 : lv_has ls 9 [(0, .ref na), (1, .ref ra), (2, .ref ca), (3, .int (nI r0)), (4, .int (nI k0)), (5, .int (nI (sumN (ik + 1) (fun k => b2 (cblk z k r0 k0))))), (6, .int (nI (ik + 1)))] := lv_eqv (l1 := [(0, .ref na), (1, .ref ra), (2, .ref ca), (3, .int (nI r0)), (4, .int (nI k0)), (5, .int (nI (sumN ik (fun k => b2 (cblk z k r0 k0))))), (6, .int (nI (ik + 1)))]) (lv_sub hl [3, 4, 5, 6, 7, 8, 0] rfl) (lv_ce rfl (lv_ce rfl (lv_ce rfl (lv_ce rfl (lv_ce rfl (lv_ce (congrArg (fun x => Value.int (nI x)) e6_18) (lv_ce (congrArg (fun x => Value.int (nI x)) e6_19) rfl)))))))
          exact ih6 _ (by omega) (hl6_20)
        · have c_87_17 : ¬ (((z (45 + 3 * ik + 2)) * (z (5 + 4 * r0))) : Int32) < (-(((z (45 + 3 * ik + 1)) * (z (5 + 4 * r0))) - ((side z r0 k0) * (z (45 + 3 * ik))))) := c_87_17
          refine lv_iinc (v := nI ((sumN ik (fun k => b2 (cblk z k r0 k0))) + 1)) (lv' := [(5, .int (nI ((sumN ik (fun k => b2 (cblk z k r0 k0))) + 1))), (8, .int ((z (45 + 3 * ik + 2)) * (z (5 + 4 * r0)))), (7, .int (((z (45 + 3 * ik + 1)) * (z (5 + 4 * r0))) - ((side z r0 k0) * (z (45 + 3 * ik))))), (0, .ref na), (1, .ref ra), (2, .ref ca), (3, .int (nI r0)), (4, .int (nI k0)), (6, .int (nI ik))]) hx hb dL_columns_90 hl (k := 7) rfl (kx_inc 1) (by decide) rfl (fun ls hl => ?_)
          refine lv_iinc (v := nI (ik + 1)) (lv' := [(6, .int (nI (ik + 1))), (5, .int (nI ((sumN ik (fun k => b2 (cblk z k r0 k0))) + 1))), (8, .int ((z (45 + 3 * ik + 2)) * (z (5 + 4 * r0)))), (7, .int (((z (45 + 3 * ik + 1)) * (z (5 + 4 * r0))) - ((side z r0 k0) * (z (45 + 3 * ik))))), (0, .ref na), (1, .ref ra), (2, .ref ca), (3, .int (nI r0)), (4, .int (nI k0))]) hx hb dL_columns_93 hl (k := 8) rfl (kx_inc 1) (by decide) rfl (fun ls hl => ?_)
          refine lv_goto (tgt := 6) hx hb dL_columns_96 (by decide) ?_
          have e6_21 : ((sumN ik (fun k => b2 (cblk z k r0 k0))) + 1 : Nat) = (sumN (ik + 1) (fun k => b2 (cblk z k r0 k0))) := by first | rfl | (rw [sumN_s]; show _ = _ + b2 (cblk z ik r0 k0); rw [cblk_law, decide_eq_true (Int32.not_le.mp c_72_7), decide_eq_true (Int32.not_lt.mp c_79_12), decide_eq_true (Int32.not_lt.mp c_87_17)]; rfl)
          have e6_22 : (ik + 1 : Nat) = ((ik + 1)) := by first | rfl | omega | (simp [Int32.not_lt, Int32.not_le, c_11_3, Nat.not_le.mpr c_11_3, c_72_7, Int32.not_le.mp c_72_7, c_79_12, Int32.not_lt.mp c_79_12, c_87_17, Int32.not_lt.mp c_87_17]; done) | (simp [Int32.not_lt, Int32.not_le, c_11_3, Nat.not_le.mpr c_11_3, c_72_7, Int32.not_le.mp c_72_7, c_79_12, Int32.not_lt.mp c_79_12, c_87_17, Int32.not_lt.mp c_87_17]; omega) | (revert c_11_3 c_72_7 c_79_12 c_87_17; simp +contextual [Int32.not_lt, Int32.not_le]; done) | (revert c_11_3 c_72_7 c_79_12 c_87_17; simp +contextual [Int32.not_lt, Int32.not_le]; omega)
          have hl6_23 : lv_has ls 9 [(0, .ref na), (1, .ref ra), (2, .ref ca), (3, .int (nI r0)), (4, .int (nI k0)), (5, .int (nI (sumN (ik + 1) (fun k => b2 (cblk z k r0 k0))))), (6, .int (nI (ik + 1)))] := lv_eqv (l1 := [(0, .ref na), (1, .ref ra), (2, .ref ca), (3, .int (nI r0)), (4, .int (nI k0)), (5, .int (nI ((sumN ik (fun k => b2 (cblk z k r0 k0))) + 1))), (6, .int (nI (ik + 1)))]) (lv_sub hl [4, 5, 6, 7, 8, 1, 0] rfl) (lv_ce rfl (lv_ce rfl (lv_ce rfl (lv_ce rfl (lv_ce rfl (lv_ce (congrArg (fun x => Value.int (nI x)) e6_21) (lv_ce (congrArg (fun x => Value.int (nI x)) e6_22) rfl)))))))
          exact ih6 _ (by omega) (hl6_23)
set_option maxHeartbeats 4000000 in
set_option maxRecDepth 100000 in
theorem c_L_all (l : Launch) (D : va_G) (cI cC cH cL : ClassId) (na : Nat) (ra : Nat) (nf : ZZ) (rf : ZZ) (wh : Nat) (z : ZZ) (nk : Nat) (hV : VAL z) (h6 : nR z ≤ 6) (hN : NN z nk nf) (hO : RO z rf) (hwh : wh < 2) : Met l yL_all wsL_all ({ frames := 0, cells := 0, slots := 0, locals := 0 }) (kp [.ref na, .ref ra, .int (nI wh)] D ([(na, .inl (cI, 6, .inl nf))] ++ ([(ra, .inl (cI, 28, .inl rf))])) (kT cI cC cH cL)) (kr (.returned (some (.int (nI (allL z wh)))))) 0 0 (fun _ => False) := by
  refine Met.ofW (cc := cL_all) (maxL := 6) (ret := (some .int)) (by decide) rfl ?_
  intro p e s m args below meth c s₁ B hml hv
  obtain ⟨rfl, hP, hK⟩ := hv
  have hx := B.exec
  have hb := B.bytes
  have hrt := B.returns
  have hts := atoms_spec (ws := wsL_all) B.pre
  have hown : s.vm.findClass RL = some m.cls := findClass_of_methodNamed B.named
  have hlocks := B.notSynchronized
  have hl := lv_entry ([.ref na, .ref ra, .int (nI wh)]) (n := 6) (Nat.le_of_ble_eq_true rfl)
  rw [lg_entry_eq]
  generalize (lg_sl ([.ref na, .ref ra, .int (nI wh)]) ++ List.replicate (6 - (lg_sl ([.ref na, .ref ra, .int (nI wh)])).length) Slot.unset).toArray = ls at hl ⊢
  have hl : lv_has ls 6 [(0, .ref na), (1, .ref ra), (2, .int (nI wh))] := hl
  have hw := hV.1
  have hR10 := wf_R10 hw
  have hC4 := wf_C4 hw
  refine lv_iconst (v := nI 0) hx hb dL_all_0 (by decide) ?_
  refine lv_istore_n (lv' := [(3, .int (nI 0)), (0, .ref na), (1, .ref ra), (2, .int (nI wh))]) hx hb dL_all_1 rfl hl (by decide) rfl (fun ls hl => ?_)
  refine lv_iconst (v := nI 0) hx hb dL_all_2 (by decide) ?_
  refine lv_istore (lv' := [(4, .int (nI 0)), (3, .int (nI 0)), (0, .ref na), (1, .ref ra), (2, .int (nI wh))]) hx hb dL_all_3 hl (by decide) rfl (fun ls hl => ?_)
  have e5_0 : (0 : Nat) = (sumN 0 (fun r => sumN (nS z r) (aF z wh r))) := by first | rfl | omega | (simp [Int32.not_lt, Int32.not_le]; done) | (simp [Int32.not_lt, Int32.not_le]; omega)
  have hl5_1 : lv_has ls 6 [(0, .ref na), (1, .ref ra), (2, .int (nI wh)), (3, .int (nI (sumN 0 (fun r => sumN (nS z r) (aF z wh r))))), (4, .int (nI 0))] := lv_eqv (l1 := [(0, .ref na), (1, .ref ra), (2, .int (nI wh)), (3, .int (nI 0)), (4, .int (nI 0))]) (lv_sub hl [2, 3, 4, 1, 0] rfl) (lv_ce rfl (lv_ce rfl (lv_ce rfl (lv_ce (congrArg (fun x => Value.int (nI x)) e5_0) (lv_ce rfl rfl)))))
  refine kx_up (fun k ls => lv_has ls 6 [(0, .ref na), (1, .ref ra), (2, .int (nI wh)), (3, .int (nI (sumN k (fun r => sumN (nS z r) (aF z wh r))))), (4, .int (nI k))]) (0) (nR z) (by omega) ls (hl5_1) ?_
  intro ir ls hirl hirh hp ih5
  have hl := hp
  refine lv_iload hx hb dL_all_5 (lv_at hl 4 rfl) ?_
  refine lv_aload_n hx hb dL_all_7 rfl (lv_at hl 0 rfl) ?_
  refine lv_iconst (v := nI 0) hx hb dL_all_8 (by decide) ?_
  refine kx_iald hx hb hK hP 0 0 rfl rfl (by omega) (by decide) dL_all_9 ?_
  refine kx_top (show (nf 0 : Int32) = nI (nR z) from hN.1) ?_
  refine kx_icmp_ge (tgt := 65) hx hb (by omega) (by omega) dL_all_10 (by decide) (fun c_10_2 => ?_) (fun c_10_3 => ?_)
  · have hq4 : nR z = ir := by omega
    subst hq4
    refine lv_iload_n hx hb dL_all_65 rfl (lv_at hl 3 rfl) ?_
    have e_5 : (sumN (nR z) (fun r => sumN (nS z r) (aF z wh r)) : Nat) = (allL z wh) := by rfl
    exact kr_iret hx hb hrt hlocks (congrArg nI e_5) rfl dL_all_66
  · refine lv_iconst (v := nI 0) hx hb dL_all_13 (by decide) ?_
    refine lv_istore (lv' := [(5, .int (nI 0)), (0, .ref na), (1, .ref ra), (2, .int (nI wh)), (3, .int (nI (sumN ir (fun r => sumN (nS z r) (aF z wh r))))), (4, .int (nI ir))]) hx hb dL_all_14 hl (by decide) rfl (fun ls hl => ?_)
    have e16_6 : (sumN ir (fun r => sumN (nS z r) (aF z wh r)) : Nat) = (sumN ir (fun r => sumN (nS z r) (aF z wh r)) + sumN 0 (aF z wh ir)) := by first | rfl | (rw [sumN_s]; show _ = _ + (_ + (if wh = 0 then 1 else b2 (tk z ir iw))); first | (rw [if_pos (by omega)]; done) | (rw [if_pos (by omega)]; omega) | (rw [if_neg (by omega)]; done) | (rw [if_neg (by omega)]; omega))
    have hl16_7 : lv_has ls 6 [(0, .ref na), (1, .ref ra), (2, .int (nI wh)), (4, .int (nI ir)), (3, .int (nI (sumN ir (fun r => sumN (nS z r) (aF z wh r)) + sumN 0 (aF z wh ir)))), (5, .int (nI 0))] := lv_eqv (l1 := [(0, .ref na), (1, .ref ra), (2, .int (nI wh)), (4, .int (nI ir)), (3, .int (nI (sumN ir (fun r => sumN (nS z r) (aF z wh r))))), (5, .int (nI 0))]) (lv_sub hl [1, 2, 3, 5, 4, 0] rfl) (lv_ce rfl (lv_ce rfl (lv_ce rfl (lv_ce rfl (lv_ce (congrArg (fun x => Value.int (nI x)) e16_6) (lv_ce rfl rfl))))))
    refine kx_up (fun k ls => lv_has ls 6 [(0, .ref na), (1, .ref ra), (2, .int (nI wh)), (4, .int (nI ir)), (3, .int (nI (sumN ir (fun r => sumN (nS z r) (aF z wh r)) + sumN k (aF z wh ir)))), (5, .int (nI k))]) (0) (nS z ir) (by omega) ls (hl16_7) ?_
    intro iw ls hiwl hiwh hp ih16
    have hl := hp
    have hSi := wf_S12 hw (show ir < nR z by omega)
    refine lv_iload hx hb dL_all_16 (lv_at hl 5 rfl) ?_
    refine lv_aload_n hx hb dL_all_18 rfl (lv_at hl 1 rfl) ?_
    refine lv_iconst (v := nI 4) hx hb dL_all_19 (by decide) ?_
    refine lv_iload hx hb dL_all_20 (lv_at hl 3 rfl) ?_
    refine kx_imul hx hb dL_all_22 ?_
    refine lv_iconst (v := nI 2) hx hb dL_all_23 (by decide) ?_
    refine kx_iadd hx hb dL_all_24 ?_
    refine kx_iald hx hb hK hP 1 0 rfl rfl (by omega) (by decide) dL_all_25 ?_
    refine kx_top (show (rf ((4 * ir) + 2) : Int32) = nI (nS z ir) from (ro_2 hO hw (by omega))) ?_
    have hS9_8 := wf_S12 hw (show ir < nR z by omega)
    refine kx_icmp_ge (tgt := 59) hx hb (by omega) (by omega) dL_all_26 (by decide) (fun c_26_9 => ?_) (fun c_26_10 => ?_)
    · have hq11 : nS z ir = iw := by omega
      subst hq11
      refine lv_iinc (v := nI (ir + 1)) (lv' := [(4, .int (nI (ir + 1))), (0, .ref na), (1, .ref ra), (2, .int (nI wh)), (3, .int (nI (sumN ir (fun r => sumN (nS z r) (aF z wh r)) + sumN (nS z ir) (aF z wh ir)))), (5, .int (nI (nS z ir)))]) hx hb dL_all_59 hl (k := 3) rfl (kx_inc 1) (by decide) rfl (fun ls hl => ?_)
      refine lv_goto (tgt := 5) hx hb dL_all_62 (by decide) ?_
      have e5_12 : (sumN ir (fun r => sumN (nS z r) (aF z wh r)) + sumN (nS z ir) (aF z wh ir) : Nat) = (sumN (ir + 1) (fun r => sumN (nS z r) (aF z wh r))) := by first | rfl | omega | (simp [Int32.not_lt, Int32.not_le, c_10_3, Nat.not_le.mpr c_10_3, c_26_9, Nat.not_lt.mpr c_26_9]; done) | (simp [Int32.not_lt, Int32.not_le, c_10_3, Nat.not_le.mpr c_10_3, c_26_9, Nat.not_lt.mpr c_26_9]; omega) | (revert c_10_3 c_26_9; simp +contextual [Int32.not_lt, Int32.not_le]; done) | (revert c_10_3 c_26_9; simp +contextual [Int32.not_lt, Int32.not_le]; omega)
      have e5_13 : (ir + 1 : Nat) = ((ir + 1)) := by first | rfl | omega | (simp [Int32.not_lt, Int32.not_le, c_10_3, Nat.not_le.mpr c_10_3, c_26_9, Nat.not_lt.mpr c_26_9]; done) | (simp [Int32.not_lt, Int32.not_le, c_10_3, Nat.not_le.mpr c_10_3, c_26_9, Nat.not_lt.mpr c_26_9]; omega) | (revert c_10_3 c_26_9; simp +contextual [Int32.not_lt, Int32.not_le]; done) | (revert c_10_3 c_26_9; simp +contextual [Int32.not_lt, Int32.not_le]; omega)
      have hl5_14 : lv_has ls 6 [(0, .ref na), (1, .ref ra), (2, .int (nI wh)), (3, .int (nI (sumN (ir + 1) (fun r => sumN (nS z r) (aF z wh r))))), (4, .int (nI (ir + 1)))] := lv_eqv (l1 := [(0, .ref na), (1, .ref ra), (2, .int (nI wh)), (3, .int (nI (sumN ir (fun r => sumN (nS z r) (aF z wh r)) + sumN (nS z ir) (aF z wh ir)))), (4, .int (nI (ir + 1)))]) (lv_sub hl [1, 2, 3, 4, 0] rfl) (lv_ce rfl (lv_ce rfl (lv_ce rfl (lv_ce (congrArg (fun x => Value.int (nI x)) e5_12) (lv_ce (congrArg (fun x => Value.int (nI x)) e5_13) rfl)))))
      exact ih5 _ (by omega) (hl5_14)
    · refine lv_iload_n hx hb dL_all_29 rfl (lv_at hl 4 rfl) ?_
      refine lv_iload_n hx hb dL_all_30 rfl (lv_at hl 2 rfl) ?_
      refine kx_if_ne (tgt := 38) hx hb (by omega) dL_all_31 (by decide) (fun c_31_15 => ?_) (fun c_31_16 => ?_)
      · refine lv_aload_n hx hb dL_all_38 rfl (lv_at hl 1 rfl) ?_
        refine lv_iconst (v := nI 4) hx hb dL_all_39 (by decide) ?_
        refine lv_iload hx hb dL_all_40 (lv_at hl 3 rfl) ?_
        refine kx_imul hx hb dL_all_42 ?_
        refine lv_iconst (v := nI 3) hx hb dL_all_43 (by decide) ?_
        refine kx_iadd hx hb dL_all_44 ?_
        refine kx_iald hx hb hK hP 1 0 rfl rfl (by omega) (by decide) dL_all_45 ?_
        refine kx_top (show (rf ((4 * ir) + 3) : Int32) = z (5 + 4 * ir + 3) from (ro_3 hO (by omega))) ?_
        refine lv_iload hx hb dL_all_46 (lv_at hl 5 rfl) ?_
        refine lv_ishr hx hb dL_all_48 ?_
        refine lv_iconst (v := nI 1) hx hb dL_all_49 (by decide) ?_
        refine lv_iand hx hb dL_all_50 ?_
        refine kx_top (show ((((z (5 + 4 * ir + 3)) >>> ((nI iw) &&& 31)) &&& (nI 1)) : Int32) = nI (b2 (tk z ir iw)) from by exact and1_tk _ _ _) ?_
        refine kx_iadd hx hb dL_all_51 ?_
        refine lv_istore_n (lv' := [(3, .int (nI ((sumN ir (fun r => sumN (nS z r) (aF z wh r)) + sumN iw (aF z wh ir)) + (b2 (tk z ir iw))))), (0, .ref na), (1, .ref ra), (2, .int (nI wh)), (4, .int (nI ir)), (5, .int (nI iw))]) hx hb dL_all_52 rfl hl (by decide) rfl (fun ls hl => ?_)
        refine lv_iinc (v := nI (iw + 1)) (lv' := [(5, .int (nI (iw + 1))), (3, .int (nI ((sumN ir (fun r => sumN (nS z r) (aF z wh r)) + sumN iw (aF z wh ir)) + (b2 (tk z ir iw))))), (0, .ref na), (1, .ref ra), (2, .int (nI wh)), (4, .int (nI ir))]) hx hb dL_all_53 hl (k := 5) rfl (kx_inc 1) (by decide) rfl (fun ls hl => ?_)
        refine lv_goto (tgt := 16) hx hb dL_all_56 (by decide) ?_
        have e16_17 : ((sumN ir (fun r => sumN (nS z r) (aF z wh r)) + sumN iw (aF z wh ir)) + (b2 (tk z ir iw)) : Nat) = (sumN ir (fun r => sumN (nS z r) (aF z wh r)) + sumN (iw + 1) (aF z wh ir)) := by first | rfl | (rw [sumN_s]; show _ = _ + (_ + (if wh = 0 then 1 else b2 (tk z ir iw))); first | (rw [if_pos (by omega)]; done) | (rw [if_pos (by omega)]; omega) | (rw [if_neg (by omega)]; done) | (rw [if_neg (by omega)]; omega))
        have e16_18 : (iw + 1 : Nat) = ((iw + 1)) := by first | rfl | omega | (simp [Int32.not_lt, Int32.not_le, c_10_3, Nat.not_le.mpr c_10_3, c_26_10, Nat.not_le.mpr c_26_10, c_31_15, Nat.ne_of_gt c_31_15]; done) | (simp [Int32.not_lt, Int32.not_le, c_10_3, Nat.not_le.mpr c_10_3, c_26_10, Nat.not_le.mpr c_26_10, c_31_15, Nat.ne_of_gt c_31_15]; omega) | (revert c_10_3 c_26_10 c_31_15; simp +contextual [Int32.not_lt, Int32.not_le]; done) | (revert c_10_3 c_26_10 c_31_15; simp +contextual [Int32.not_lt, Int32.not_le]; omega)
        have hl16_19 : lv_has ls 6 [(0, .ref na), (1, .ref ra), (2, .int (nI wh)), (4, .int (nI ir)), (3, .int (nI (sumN ir (fun r => sumN (nS z r) (aF z wh r)) + sumN (iw + 1) (aF z wh ir)))), (5, .int (nI (iw + 1)))] := lv_eqv (l1 := [(0, .ref na), (1, .ref ra), (2, .int (nI wh)), (4, .int (nI ir)), (3, .int (nI ((sumN ir (fun r => sumN (nS z r) (aF z wh r)) + sumN iw (aF z wh ir)) + (b2 (tk z ir iw))))), (5, .int (nI (iw + 1)))]) (lv_sub hl [2, 3, 4, 5, 1, 0] rfl) (lv_ce rfl (lv_ce rfl (lv_ce rfl (lv_ce rfl (lv_ce (congrArg (fun x => Value.int (nI x)) e16_17) (lv_ce (congrArg (fun x => Value.int (nI x)) e16_18) rfl))))))
        exact ih16 _ (by omega) (hl16_19)
      · refine lv_iconst (v := nI 1) hx hb dL_all_34 (by decide) ?_
        refine lv_goto (tgt := 51) hx hb dL_all_35 (by decide) ?_
        refine kx_iadd hx hb dL_all_51 ?_
        refine lv_istore_n (lv' := [(3, .int (nI ((sumN ir (fun r => sumN (nS z r) (aF z wh r)) + sumN iw (aF z wh ir)) + 1))), (0, .ref na), (1, .ref ra), (2, .int (nI wh)), (4, .int (nI ir)), (5, .int (nI iw))]) hx hb dL_all_52 rfl hl (by decide) rfl (fun ls hl => ?_)
        refine lv_iinc (v := nI (iw + 1)) (lv' := [(5, .int (nI (iw + 1))), (3, .int (nI ((sumN ir (fun r => sumN (nS z r) (aF z wh r)) + sumN iw (aF z wh ir)) + 1))), (0, .ref na), (1, .ref ra), (2, .int (nI wh)), (4, .int (nI ir))]) hx hb dL_all_53 hl (k := 5) rfl (kx_inc 1) (by decide) rfl (fun ls hl => ?_)
        refine lv_goto (tgt := 16) hx hb dL_all_56 (by decide) ?_
        have e16_20 : ((sumN ir (fun r => sumN (nS z r) (aF z wh r)) + sumN iw (aF z wh ir)) + 1 : Nat) = (sumN ir (fun r => sumN (nS z r) (aF z wh r)) + sumN (iw + 1) (aF z wh ir)) := by first | rfl | (rw [sumN_s]; show _ = _ + (_ + (if wh = 0 then 1 else b2 (tk z ir iw))); first | (rw [if_pos (by omega)]; done) | (rw [if_pos (by omega)]; omega) | (rw [if_neg (by omega)]; done) | (rw [if_neg (by omega)]; omega))
        have e16_21 : (iw + 1 : Nat) = ((iw + 1)) := by first | rfl | omega | (simp [Int32.not_lt, Int32.not_le, c_10_3, Nat.not_le.mpr c_10_3, c_26_10, Nat.not_le.mpr c_26_10, c_31_16]; done) | (simp [Int32.not_lt, Int32.not_le, c_10_3, Nat.not_le.mpr c_10_3, c_26_10, Nat.not_le.mpr c_26_10, c_31_16]; omega) | (revert c_10_3 c_26_10 c_31_16; simp +contextual [Int32.not_lt, Int32.not_le]; done) | (revert c_10_3 c_26_10 c_31_16; simp +contextual [Int32.not_lt, Int32.not_le]; omega)
        have hl16_22 : lv_has ls 6 [(0, .ref na), (1, .ref ra), (2, .int (nI wh)), (4, .int (nI ir)), (3, .int (nI (sumN ir (fun r => sumN (nS z r) (aF z wh r)) + sumN (iw + 1) (aF z wh ir)))), (5, .int (nI (iw + 1)))] := lv_eqv (l1 := [(0, .ref na), (1, .ref ra), (2, .int (nI wh)), (4, .int (nI ir)), (3, .int (nI ((sumN ir (fun r => sumN (nS z r) (aF z wh r)) + sumN iw (aF z wh ir)) + 1))), (5, .int (nI (iw + 1)))]) (lv_sub hl [2, 3, 4, 5, 1, 0] rfl) (lv_ce rfl (lv_ce rfl (lv_ce rfl (lv_ce rfl (lv_ce (congrArg (fun x => Value.int (nI x)) e16_20) (lv_ce (congrArg (fun x => Value.int (nI x)) e16_21) rfl))))))
        exact ih16 _ (by omega) (hl16_22)
