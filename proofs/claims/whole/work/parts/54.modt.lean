theorem k_Jxe99ae_doubleToLongBits_ccdee : yJxe99ae_doubleToLongBits_ccdee.cls = RJxe99ae ∧ yJxe99ae_doubleToLongBits_ccdee.cls ≠ "java/lang/invoke/MethodHandle" ∧ yJxe99ae_doubleToLongBits_ccdee.cls ≠ "java/lang/invoke/VarHandle" ∧ (parseMethodDescriptor yJxe99ae_doubleToLongBits_ccdee.desc).map (fun d => d.parameters.length) = some 1 := by decide +kernel
theorem k_Jxe99ae_doubleToLongBits_ccdeeS : yJxe99ae_doubleToLongBits_ccdee.cls ≠ "java/lang/invoke/MethodHandle" ∧ yJxe99ae_doubleToLongBits_ccdee.cls ≠ "java/lang/invoke/VarHandle" ∧ (parseMethodDescriptor yJxe99ae_doubleToLongBits_ccdee.desc).map (fun d => d.parameters.length) = some 1 := k_Jxe99ae_doubleToLongBits_ccdee.2
theorem k_X5_mixRow : yX5_mixRow.cls = RX5 ∧ yX5_mixRow.cls ≠ "java/lang/invoke/MethodHandle" ∧ yX5_mixRow.cls ≠ "java/lang/invoke/VarHandle" ∧ (parseMethodDescriptor yX5_mixRow.desc).map (fun d => d.parameters.length) = some 1 := by decide +kernel
theorem k_X5_mixRowS : yX5_mixRow.cls ≠ "java/lang/invoke/MethodHandle" ∧ yX5_mixRow.cls ≠ "java/lang/invoke/VarHandle" ∧ (parseMethodDescriptor yX5_mixRow.desc).map (fun d => d.parameters.length) = some 1 := k_X5_mixRow.2
theorem k_X5_rightUpTo : yX5_rightUpTo.cls = RX5 ∧ yX5_rightUpTo.cls ≠ "java/lang/invoke/MethodHandle" ∧ yX5_rightUpTo.cls ≠ "java/lang/invoke/VarHandle" ∧ (parseMethodDescriptor yX5_rightUpTo.desc).map (fun d => d.parameters.length) = some 0 := by decide +kernel
theorem k_X5_rightUpToS : yX5_rightUpTo.cls ≠ "java/lang/invoke/MethodHandle" ∧ yX5_rightUpTo.cls ≠ "java/lang/invoke/VarHandle" ∧ (parseMethodDescriptor yX5_rightUpTo.desc).map (fun d => d.parameters.length) = some 0 := k_X5_rightUpTo.2
theorem k_X5_takes : yX5_takes.cls = RX5 ∧ yX5_takes.cls ≠ "java/lang/invoke/MethodHandle" ∧ yX5_takes.cls ≠ "java/lang/invoke/VarHandle" ∧ (parseMethodDescriptor yX5_takes.desc).map (fun d => d.parameters.length) = some 1 := by decide +kernel
theorem k_X5_takesS : yX5_takes.cls ≠ "java/lang/invoke/MethodHandle" ∧ yX5_takes.cls ≠ "java/lang/invoke/VarHandle" ∧ (parseMethodDescriptor yX5_takes.desc).map (fun d => d.parameters.length) = some 1 := k_X5_takes.2
theorem k_X5_takesDigit : yX5_takesDigit.cls = RX5 ∧ yX5_takesDigit.cls ≠ "java/lang/invoke/MethodHandle" ∧ yX5_takesDigit.cls ≠ "java/lang/invoke/VarHandle" ∧ (parseMethodDescriptor yX5_takesDigit.desc).map (fun d => d.parameters.length) = some 1 := by decide +kernel
theorem k_X5_takesDigitS : yX5_takesDigit.cls ≠ "java/lang/invoke/MethodHandle" ∧ yX5_takesDigit.cls ≠ "java/lang/invoke/VarHandle" ∧ (parseMethodDescriptor yX5_takesDigit.desc).map (fun d => d.parameters.length) = some 1 := k_X5_takesDigit.2
set_option maxRecDepth 20000 in
theorem iX5_takesDigit_5 : ∀ w ∈ wsX50, w ∈ wsX5_takesDigit := by decide +kernel
set_option maxHeartbeats 4000000 in
set_option maxRecDepth 100000 in
theorem c_X5_takesDigit (l : Launch) (D : va_G) (cI cC cH cL : ClassId) (a : Nat → Nat) (z zh tx pa wy : ZZ) (ns nl nrd npt : Nat) (th nu : Int32) (za : Int64) (d0 : Int32) (hpt : npt < 3) (hrd : 3 * nrd + npt < 33) : Met l yX5_takesDigit wsX5_takesDigit ({ frames := 2, cells := 0, slots := 0, locals := 42 }) (kw [.ref (a 0), .int d0] D (MW a cI z (nI ns) zh (nI nl) tx th pa (nI nrd) nu (nI npt) wy za) (kT cI cC cH cL)) (kq D (MW a cI z (nI ns) zh (nI nl) tx th pa (nI nrd) nu (nI npt) wy za) (MW a cI z (nI ns) zh (nI nl) tx th (upd pa (3 * nrd + npt) (tdNu nu npt d0)) (nI nrd) (tdNu nu npt d0) (nI npt) wy za) (.returned (some (.int (bI (tdB nu npt d0)))))) 0 0 (kA (MW a cI z (nI ns) zh (nI nl) tx th pa (nI nrd) nu (nI npt) wy za)) := by
  refine Met.ofW (cc := cX5_takesDigit) (maxL := 5) (ret := (some .boolean)) (by decide) rfl ?_
  intro p e s m args below meth c s₁ B hml hv
  obtain ⟨rfl, hP, hK, hD0⟩ := hv
  have hx := B.exec
  have hb := B.bytes
  have hrt := B.returns
  have hts := atoms_spec (ws := wsX5_takesDigit) B.pre
  have hown : s.vm.findClass RX5 = some m.cls := findClass_of_methodNamed B.named
  have hlocks := B.notSynchronized
  have hl := lv_entry ([.ref (a 0), .int d0]) (n := 5) (Nat.le_of_ble_eq_true rfl)
  rw [lg_entry_eq]
  generalize (lg_sl ([.ref (a 0), .int d0]) ++ List.replicate (5 - (lg_sl ([.ref (a 0), .int d0])).length) Slot.unset).toArray = ls at hl ⊢
  have hl : lv_has ls 5 [(0, .ref (a 0)), (1, .int d0)] := hl
  have hD := kA_self hD0
  obtain ⟨w0, hw0⟩ : ∃ w : va_W, w = MW a cI z (nI ns) zh (nI nl) tx th pa (nI nrd) nu (nI npt) wy za := ⟨_, rfl⟩
  have hD : va_D (kA w0) (MW a cI z (nI ns) zh (nI nl) tx th pa (nI nrd) nu (nI npt) wy za) := by rw [hw0]; exact hD
  have hS : va_S (kA w0) s.heap s.heap [] := va_S.rf
  rw [show kA (MW a cI z (nI ns) zh (nI nl) tx th pa (nI nrd) nu (nI npt) wy za) = kA w0 from by rw [hw0], show kq D (MW a cI z (nI ns) zh (nI nl) tx th pa (nI nrd) nu (nI npt) wy za) = kq D w0 from by rw [hw0]]
  have hP : va_P D vwCl (MW a cI z (nI ns) zh (nI nl) tx th pa (nI nrd) nu (nI npt) wy za) s.heap := hP
  refine lv_aload_n hx hb dX5_takesDigit_0 rfl (lv_at hl 0 rfl) ?_
  refine va_get (D := D) (ci := 5) (v := .int nu) (C := RX5) (T := TX5) (N := 12) hx hb hts iX5_takesDigit_5 hown hK hP 0 rfl rfl 8 (by decide) (hts (.fieldLink RX5 134 "HallSightsModel" "number" "I") (List.mem_of_getElem? (i := 1) rfl)) (fun _ h9 => h9) rfl dX5_takesDigit_1 ?_
  refine lv_iconst (v := (-1)) hx hb dX5_takesDigit_4 (by decide) ?_
  refine lv_icmp_ne (tgt := 12) hx hb dX5_takesDigit_5 (by decide) (fun c_5_0 => ?_) (fun c_5_1 => ?_)
  · have c_5_0 : ¬ (nu : Int32) = (-1) := c_5_0
    refine lv_bipush (v := nI 10) hx hb dX5_takesDigit_12 (by decide) ?_
    refine lv_aload_n hx hb dX5_takesDigit_14 rfl (lv_at hl 0 rfl) ?_
    refine va_get (D := D) (ci := 5) (v := .int nu) (C := RX5) (T := TX5) (N := 12) hx hb hts iX5_takesDigit_5 hown hK hP 0 rfl rfl 8 (by decide) (hts (.fieldLink RX5 134 "HallSightsModel" "number" "I") (List.mem_of_getElem? (i := 1) rfl)) (fun _ h9 => h9) rfl dX5_takesDigit_15 ?_
    refine lv_imul hx hb dX5_takesDigit_18 ?_
    refine lv_iload_n hx hb dX5_takesDigit_19 rfl (lv_at hl 1 rfl) ?_
    refine lv_iadd hx hb dX5_takesDigit_20 ?_
    refine lv_istore_n (lv' := [(2, .int (((nI 10) * nu) + d0)), (0, .ref (a 0)), (1, .int d0)]) hx hb dX5_takesDigit_21 rfl hl (by decide) rfl (fun ls hl => ?_)
    refine lv_aload_n hx hb dX5_takesDigit_22 rfl (lv_at hl 1 rfl) ?_
    refine va_get (D := D) (ci := 5) (v := .int (nI npt)) (C := RX5) (T := TX5) (N := 12) hx hb hts iX5_takesDigit_5 hown hK hP 0 rfl rfl 9 (by decide) (hts (.fieldLink RX5 137 "HallSightsModel" "part" "I") (List.mem_of_getElem? (i := 2) rfl)) (fun _ h9 => h9) rfl dX5_takesDigit_23 ?_
    refine kx_if_ne (tgt := 36) hx hb (by omega) dX5_takesDigit_26 (by decide) (fun c_26_2 => ?_) (fun c_26_3 => ?_)
    · refine lv_aload_n hx hb dX5_takesDigit_36 rfl (lv_at hl 1 rfl) ?_
      refine va_get (D := D) (ci := 5) (v := .int (nI npt)) (C := RX5) (T := TX5) (N := 12) hx hb hts iX5_takesDigit_5 hown hK hP 0 rfl rfl 9 (by decide) (hts (.fieldLink RX5 137 "HallSightsModel" "part" "I") (List.mem_of_getElem? (i := 2) rfl)) (fun _ h9 => h9) rfl dX5_takesDigit_37 ?_
      refine lv_iconst (v := nI 1) hx hb dX5_takesDigit_40 (by decide) ?_
      refine kx_icmp_ne (tgt := 51) hx hb (by omega) (by omega) dX5_takesDigit_41 (by decide) (fun c_41_4 => ?_) (fun c_41_5 => ?_)
      · refine lv_iload_n hx hb dX5_takesDigit_51 rfl (lv_at hl 0 rfl) ?_
        refine lv_iconst (v := nI 1) hx hb dX5_takesDigit_52 (by decide) ?_
        refine lv_bipush (v := nI 12) hx hb dX5_takesDigit_53 (by decide) ?_
        refine kr_S (As := [.int (((nI 10) * nu) + d0), .int (nI 1), .int (nI 12)]) (rest := []) (own := RX5) ⟨hx, hb, hml, hown, hts⟩ (c_X5_within l D cI cC cH cL  (((nI 10) * nu) + d0) (nI 1) (nI 12) ) (va_cwS 3 hts gX5_takesDigit_X5_within rfl rfl rfl k_X5_withinS ⟨Nat.le_of_ble_eq_true rfl, Nat.le_of_ble_eq_true rfl⟩) (hP.sub (ws' := []) [] rfl) hK rfl hl.1 rfl (Nat.le_of_ble_eq_true rfl) dX5_takesDigit_55 ⟨Nat.le_of_ble_eq_true rfl, Nat.le_of_ble_eq_true rfl⟩ ?_
        refine lv_istore_n (lv' := [(3, .int (bI (wthn (((nI 10) * nu) + d0) (nI 1) (nI 12)))), (2, .int (((nI 10) * nu) + d0)), (0, .ref (a 0)), (1, .int d0)]) hx hb dX5_takesDigit_58 rfl hl (by decide) rfl (fun ls hl => ?_)
        refine lv_iload_n hx hb dX5_takesDigit_59 rfl (lv_at hl 3 rfl) ?_
        refine lv_iconst (v := nI 0) hx hb dX5_takesDigit_60 (by decide) ?_
        refine lv_bipush (v := nI 9) hx hb dX5_takesDigit_61 (by decide) ?_
        refine kr_S (As := [.int d0, .int (nI 0), .int (nI 9)]) (rest := []) (own := RX5) ⟨hx, hb, hml, hown, hts⟩ (c_X5_within l D cI cC cH cL  d0 (nI 0) (nI 9) ) (va_cwS 3 hts gX5_takesDigit_X5_within rfl rfl rfl k_X5_withinS ⟨Nat.le_of_ble_eq_true rfl, Nat.le_of_ble_eq_true rfl⟩) (hP.sub (ws' := []) [] rfl) hK rfl hl.1 rfl (Nat.le_of_ble_eq_true rfl) dX5_takesDigit_63 ⟨Nat.le_of_ble_eq_true rfl, Nat.le_of_ble_eq_true rfl⟩ ?_
        refine kx_if_eqb (tgt := 84) hx hb dX5_takesDigit_66 (by decide) (fun c_66_6 => ?_) (fun c_66_7 => ?_)
        · refine lv_iconst (v := nI 0) hx hb dX5_takesDigit_84 (by decide) ?_
          refine lv_istore (lv' := [(4, .int (nI 0)), (3, .int (bI (wthn (((nI 10) * nu) + d0) (nI 1) (nI 12)))), (2, .int (((nI 10) * nu) + d0)), (0, .ref (a 0)), (1, .int d0)]) hx hb dX5_takesDigit_85 hl (by decide) rfl (fun ls hl => ?_)
          refine lv_aload_n hx hb dX5_takesDigit_87 rfl (lv_at hl 3 rfl) ?_
          refine lv_iload hx hb dX5_takesDigit_88 (lv_at hl 0 rfl) ?_
          refine kx_if_eq (tgt := 97) hx hb (by omega) dX5_takesDigit_90 (by decide) (fun c_90_8 => ?_) (fun c => absurd c (by omega))
          refine lv_aload_n hx hb dX5_takesDigit_97 rfl (lv_at hl 3 rfl) ?_
          refine va_get (D := D) (ci := 5) (v := .int nu) (C := RX5) (T := TX5) (N := 12) hx hb hts iX5_takesDigit_5 hown hK hP 0 rfl rfl 8 (by decide) (hts (.fieldLink RX5 134 "HallSightsModel" "number" "I") (List.mem_of_getElem? (i := 1) rfl)) (fun _ h9 => h9) rfl dX5_takesDigit_98 ?_
          refine va_put (D := D) (ci := 5) (v := .int nu) (ty := .int) (C := RX5) (T := TX5) (N := 12) hx hb hts iX5_takesDigit_5 tyX5 tyX5_ok nmX5 hown hK hP hD hS 0 rfl rfl 8 (by decide) (hts (.fieldLink RX5 134 "HallSightsModel" "number" "I") (List.mem_of_getElem? (i := 1) rfl)) (fun _ h9 => h9) rfl (by decide +kernel) rfl rfl (Nat.le_of_ble_eq_true rfl) dX5_takesDigit_101 (fun H locs hP hD hS => ?_)
          have hP : va_P D vwCl (MW a cI z (nI ns) zh (nI nl) tx th pa (nI nrd) nu (nI npt) wy za) H := hP
          have hD : va_D (kA w0) (MW a cI z (nI ns) zh (nI nl) tx th pa (nI nrd) nu (nI npt) wy za) := hD
          refine lv_aload_n hx hb dX5_takesDigit_104 rfl (lv_at hl 3 rfl) ?_
          refine va_get (D := D) (ci := 5) (v := .ref (a 4)) (C := RX5) (T := TX5) (N := 12) hx hb hts iX5_takesDigit_5 hown hK hP 0 rfl rfl 6 (by decide) (hts (.fieldLink RX5 19 "HallSightsModel" "parts" "[I") (List.mem_of_getElem? (i := 3) rfl)) (fun _ h9 => h9) rfl dX5_takesDigit_105 ?_
          refine lv_iconst (v := nI 3) hx hb dX5_takesDigit_108 (by decide) ?_
          refine lv_aload_n hx hb dX5_takesDigit_109 rfl (lv_at hl 3 rfl) ?_
          refine va_get (D := D) (ci := 5) (v := .int (nI nrd)) (C := RX5) (T := TX5) (N := 12) hx hb hts iX5_takesDigit_5 hown hK hP 0 rfl rfl 7 (by decide) (hts (.fieldLink RX5 140 "HallSightsModel" "read" "I") (List.mem_of_getElem? (i := 4) rfl)) (fun _ h9 => h9) rfl dX5_takesDigit_110 ?_
          refine kx_imul hx hb dX5_takesDigit_113 ?_
          refine lv_aload_n hx hb dX5_takesDigit_114 rfl (lv_at hl 3 rfl) ?_
          refine va_get (D := D) (ci := 5) (v := .int (nI npt)) (C := RX5) (T := TX5) (N := 12) hx hb hts iX5_takesDigit_5 hown hK hP 0 rfl rfl 9 (by decide) (hts (.fieldLink RX5 137 "HallSightsModel" "part" "I") (List.mem_of_getElem? (i := 2) rfl)) (fun _ h9 => h9) rfl dX5_takesDigit_115 ?_
          refine kx_iadd hx hb dX5_takesDigit_118 ?_
          refine lv_aload_n hx hb dX5_takesDigit_119 rfl (lv_at hl 3 rfl) ?_
          refine va_get (D := D) (ci := 5) (v := .int nu) (C := RX5) (T := TX5) (N := 12) hx hb hts iX5_takesDigit_5 hown hK hP 0 rfl rfl 8 (by decide) (hts (.fieldLink RX5 134 "HallSightsModel" "number" "I") (List.mem_of_getElem? (i := 1) rfl)) (fun _ h9 => h9) rfl dX5_takesDigit_120 ?_
          refine kx_iast hx hb hK hP hD hS 4 0 rfl rfl (by omega) (by decide) dX5_takesDigit_123 (fun H locs hP hD hS => ?_)
          have hP : va_P D vwCl (MW a cI z (nI ns) zh (nI nl) tx th (upd pa ((3 * nrd) + npt) nu) (nI nrd) nu (nI npt) wy za) H := hP
          have hD : va_D (kA w0) (MW a cI z (nI ns) zh (nI nl) tx th (upd pa ((3 * nrd) + npt) nu) (nI nrd) nu (nI npt) wy za) := hD
          refine lv_iload hx hb dX5_takesDigit_124 (lv_at hl 0 rfl) ?_
          have e_9 : (false : Bool) = (tdB nu npt d0) := by first | rfl | omega | (simp [tdB, tdNu, tdV, tdR, Int32.not_lt, Int32.not_le, c_5_0, c_26_2, Nat.ne_of_gt c_26_2, c_41_4, c_66_6]; done) | (simp [tdB, tdNu, tdV, tdR, Int32.not_lt, Int32.not_le, c_5_0, c_26_2, Nat.ne_of_gt c_26_2, c_41_4, c_66_6]; omega) | (revert c_5_0 c_26_2 c_41_4 c_66_6; simp +contextual [tdB, tdNu, tdV, tdR, Int32.not_lt, Int32.not_le]; done) | (revert c_5_0 c_26_2 c_41_4 c_66_6; simp +contextual [tdB, tdNu, tdV, tdR, Int32.not_lt, Int32.not_le]; omega)
          have ec_pa_10 : ((upd pa ((3 * nrd) + npt) nu) : ZZ) = (upd pa (3 * nrd + npt) (tdNu nu npt d0)) := by first | rfl | omega | (simp [tdB, tdNu, tdV, tdR, Int32.not_lt, Int32.not_le, c_5_0, c_26_2, Nat.ne_of_gt c_26_2, c_41_4, c_66_6]; done) | (simp [tdB, tdNu, tdV, tdR, Int32.not_lt, Int32.not_le, c_5_0, c_26_2, Nat.ne_of_gt c_26_2, c_41_4, c_66_6]; omega) | (revert c_5_0 c_26_2 c_41_4 c_66_6; simp +contextual [tdB, tdNu, tdV, tdR, Int32.not_lt, Int32.not_le]; done) | (revert c_5_0 c_26_2 c_41_4 c_66_6; simp +contextual [tdB, tdNu, tdV, tdR, Int32.not_lt, Int32.not_le]; omega)
          have ec_nu_11 : (nu : Int32) = (tdNu nu npt d0) := by first | rfl | omega | (simp [tdB, tdNu, tdV, tdR, Int32.not_lt, Int32.not_le, c_5_0, c_26_2, Nat.ne_of_gt c_26_2, c_41_4, c_66_6]; done) | (simp [tdB, tdNu, tdV, tdR, Int32.not_lt, Int32.not_le, c_5_0, c_26_2, Nat.ne_of_gt c_26_2, c_41_4, c_66_6]; omega) | (revert c_5_0 c_26_2 c_41_4 c_66_6; simp +contextual [tdB, tdNu, tdV, tdR, Int32.not_lt, Int32.not_le]; done) | (revert c_5_0 c_26_2 c_41_4 c_66_6; simp +contextual [tdB, tdNu, tdV, tdR, Int32.not_lt, Int32.not_le]; omega)
          have ew_12 : (MW a cI z (nI ns) zh (nI nl) tx th (upd pa ((3 * nrd) + npt) nu) (nI nrd) nu (nI npt) wy za : va_W) = (MW a cI z (nI ns) zh (nI nl) tx th (upd pa (3 * nrd + npt) (tdNu nu npt d0)) (nI nrd) (tdNu nu npt d0) (nI npt) wy za) := mw_c rfl rfl rfl rfl rfl rfl ec_pa_10 rfl ec_nu_11 rfl rfl rfl
          rw [ew_12] at hP hD
          subst hw0
          exact kq_zret hx hb hrt hlocks (congrArg bI e_9) hP hD hS dX5_takesDigit_126
        · refine lv_aload_n hx hb dX5_takesDigit_69 rfl (lv_at hl 2 rfl) ?_
          refine va_get (D := D) (ci := 5) (v := .int nu) (C := RX5) (T := TX5) (N := 12) hx hb hts iX5_takesDigit_5 hown hK hP 0 rfl rfl 8 (by decide) (hts (.fieldLink RX5 134 "HallSightsModel" "number" "I") (List.mem_of_getElem? (i := 1) rfl)) (fun _ h9 => h9) rfl dX5_takesDigit_70 ?_
          refine lv_if_eq (tgt := 84) hx hb dX5_takesDigit_73 (by decide) (fun c_73_13 => ?_) (fun c_73_14 => ?_)
          · have c_73_13 : (nu : Int32) = 0 := c_73_13
            refine lv_iconst (v := nI 0) hx hb dX5_takesDigit_84 (by decide) ?_
            refine lv_istore (lv' := [(4, .int (nI 0)), (3, .int (bI (wthn (((nI 10) * nu) + d0) (nI 1) (nI 12)))), (2, .int (((nI 10) * nu) + d0)), (0, .ref (a 0)), (1, .int d0)]) hx hb dX5_takesDigit_85 hl (by decide) rfl (fun ls hl => ?_)
            refine lv_aload_n hx hb dX5_takesDigit_87 rfl (lv_at hl 3 rfl) ?_
            refine lv_iload hx hb dX5_takesDigit_88 (lv_at hl 0 rfl) ?_
            refine kx_if_eq (tgt := 97) hx hb (by omega) dX5_takesDigit_90 (by decide) (fun c_90_15 => ?_) (fun c => absurd c (by omega))
            refine lv_aload_n hx hb dX5_takesDigit_97 rfl (lv_at hl 3 rfl) ?_
            refine va_get (D := D) (ci := 5) (v := .int nu) (C := RX5) (T := TX5) (N := 12) hx hb hts iX5_takesDigit_5 hown hK hP 0 rfl rfl 8 (by decide) (hts (.fieldLink RX5 134 "HallSightsModel" "number" "I") (List.mem_of_getElem? (i := 1) rfl)) (fun _ h9 => h9) rfl dX5_takesDigit_98 ?_
            refine va_put (D := D) (ci := 5) (v := .int nu) (ty := .int) (C := RX5) (T := TX5) (N := 12) hx hb hts iX5_takesDigit_5 tyX5 tyX5_ok nmX5 hown hK hP hD hS 0 rfl rfl 8 (by decide) (hts (.fieldLink RX5 134 "HallSightsModel" "number" "I") (List.mem_of_getElem? (i := 1) rfl)) (fun _ h9 => h9) rfl (by decide +kernel) rfl rfl (Nat.le_of_ble_eq_true rfl) dX5_takesDigit_101 (fun H locs hP hD hS => ?_)
            have hP : va_P D vwCl (MW a cI z (nI ns) zh (nI nl) tx th pa (nI nrd) nu (nI npt) wy za) H := hP
            have hD : va_D (kA w0) (MW a cI z (nI ns) zh (nI nl) tx th pa (nI nrd) nu (nI npt) wy za) := hD
            refine lv_aload_n hx hb dX5_takesDigit_104 rfl (lv_at hl 3 rfl) ?_
            refine va_get (D := D) (ci := 5) (v := .ref (a 4)) (C := RX5) (T := TX5) (N := 12) hx hb hts iX5_takesDigit_5 hown hK hP 0 rfl rfl 6 (by decide) (hts (.fieldLink RX5 19 "HallSightsModel" "parts" "[I") (List.mem_of_getElem? (i := 3) rfl)) (fun _ h9 => h9) rfl dX5_takesDigit_105 ?_
            refine lv_iconst (v := nI 3) hx hb dX5_takesDigit_108 (by decide) ?_
            refine lv_aload_n hx hb dX5_takesDigit_109 rfl (lv_at hl 3 rfl) ?_
            refine va_get (D := D) (ci := 5) (v := .int (nI nrd)) (C := RX5) (T := TX5) (N := 12) hx hb hts iX5_takesDigit_5 hown hK hP 0 rfl rfl 7 (by decide) (hts (.fieldLink RX5 140 "HallSightsModel" "read" "I") (List.mem_of_getElem? (i := 4) rfl)) (fun _ h9 => h9) rfl dX5_takesDigit_110 ?_
            refine kx_imul hx hb dX5_takesDigit_113 ?_
            refine lv_aload_n hx hb dX5_takesDigit_114 rfl (lv_at hl 3 rfl) ?_
            refine va_get (D := D) (ci := 5) (v := .int (nI npt)) (C := RX5) (T := TX5) (N := 12) hx hb hts iX5_takesDigit_5 hown hK hP 0 rfl rfl 9 (by decide) (hts (.fieldLink RX5 137 "HallSightsModel" "part" "I") (List.mem_of_getElem? (i := 2) rfl)) (fun _ h9 => h9) rfl dX5_takesDigit_115 ?_
            refine kx_iadd hx hb dX5_takesDigit_118 ?_
            refine lv_aload_n hx hb dX5_takesDigit_119 rfl (lv_at hl 3 rfl) ?_
            refine va_get (D := D) (ci := 5) (v := .int nu) (C := RX5) (T := TX5) (N := 12) hx hb hts iX5_takesDigit_5 hown hK hP 0 rfl rfl 8 (by decide) (hts (.fieldLink RX5 134 "HallSightsModel" "number" "I") (List.mem_of_getElem? (i := 1) rfl)) (fun _ h9 => h9) rfl dX5_takesDigit_120 ?_
            refine kx_iast hx hb hK hP hD hS 4 0 rfl rfl (by omega) (by decide) dX5_takesDigit_123 (fun H locs hP hD hS => ?_)
            have hP : va_P D vwCl (MW a cI z (nI ns) zh (nI nl) tx th (upd pa ((3 * nrd) + npt) nu) (nI nrd) nu (nI npt) wy za) H := hP
            have hD : va_D (kA w0) (MW a cI z (nI ns) zh (nI nl) tx th (upd pa ((3 * nrd) + npt) nu) (nI nrd) nu (nI npt) wy za) := hD
            refine lv_iload hx hb dX5_takesDigit_124 (lv_at hl 0 rfl) ?_
            have e_16 : (false : Bool) = (tdB nu npt d0) := by first | rfl | omega | (simp [tdB, tdNu, tdV, tdR, Int32.not_lt, Int32.not_le, c_5_0, c_26_2, Nat.ne_of_gt c_26_2, c_41_4, c_66_7, c_73_13]; done) | (simp [tdB, tdNu, tdV, tdR, Int32.not_lt, Int32.not_le, c_5_0, c_26_2, Nat.ne_of_gt c_26_2, c_41_4, c_66_7, c_73_13]; omega) | (revert c_5_0 c_26_2 c_41_4 c_66_7 c_73_13; simp +contextual [tdB, tdNu, tdV, tdR, Int32.not_lt, Int32.not_le]; done) | (revert c_5_0 c_26_2 c_41_4 c_66_7 c_73_13; simp +contextual [tdB, tdNu, tdV, tdR, Int32.not_lt, Int32.not_le]; omega)
            have ec_pa_17 : ((upd pa ((3 * nrd) + npt) nu) : ZZ) = (upd pa (3 * nrd + npt) (tdNu nu npt d0)) := by first | rfl | omega | (simp [tdB, tdNu, tdV, tdR, Int32.not_lt, Int32.not_le, c_5_0, c_26_2, Nat.ne_of_gt c_26_2, c_41_4, c_66_7, c_73_13]; done) | (simp [tdB, tdNu, tdV, tdR, Int32.not_lt, Int32.not_le, c_5_0, c_26_2, Nat.ne_of_gt c_26_2, c_41_4, c_66_7, c_73_13]; omega) | (revert c_5_0 c_26_2 c_41_4 c_66_7 c_73_13; simp +contextual [tdB, tdNu, tdV, tdR, Int32.not_lt, Int32.not_le]; done) | (revert c_5_0 c_26_2 c_41_4 c_66_7 c_73_13; simp +contextual [tdB, tdNu, tdV, tdR, Int32.not_lt, Int32.not_le]; omega)
            have ec_nu_18 : (nu : Int32) = (tdNu nu npt d0) := by first | rfl | omega | (simp [tdB, tdNu, tdV, tdR, Int32.not_lt, Int32.not_le, c_5_0, c_26_2, Nat.ne_of_gt c_26_2, c_41_4, c_66_7, c_73_13]; done) | (simp [tdB, tdNu, tdV, tdR, Int32.not_lt, Int32.not_le, c_5_0, c_26_2, Nat.ne_of_gt c_26_2, c_41_4, c_66_7, c_73_13]; omega) | (revert c_5_0 c_26_2 c_41_4 c_66_7 c_73_13; simp +contextual [tdB, tdNu, tdV, tdR, Int32.not_lt, Int32.not_le]; done) | (revert c_5_0 c_26_2 c_41_4 c_66_7 c_73_13; simp +contextual [tdB, tdNu, tdV, tdR, Int32.not_lt, Int32.not_le]; omega)
            have ew_19 : (MW a cI z (nI ns) zh (nI nl) tx th (upd pa ((3 * nrd) + npt) nu) (nI nrd) nu (nI npt) wy za : va_W) = (MW a cI z (nI ns) zh (nI nl) tx th (upd pa (3 * nrd + npt) (tdNu nu npt d0)) (nI nrd) (tdNu nu npt d0) (nI npt) wy za) := mw_c rfl rfl rfl rfl rfl rfl ec_pa_17 rfl ec_nu_18 rfl rfl rfl
            rw [ew_19] at hP hD
            subst hw0
            exact kq_zret hx hb hrt hlocks (congrArg bI e_16) hP hD hS dX5_takesDigit_126
          · have c_73_14 : ¬ (nu : Int32) = 0 := c_73_14
            refine lv_iload_n hx hb dX5_takesDigit_76 rfl (lv_at hl 0 rfl) ?_
            refine kx_if_eqb (tgt := 84) hx hb dX5_takesDigit_77 (by decide) (fun c_77_20 => ?_) (fun c_77_21 => ?_)
            · refine lv_iconst (v := nI 0) hx hb dX5_takesDigit_84 (by decide) ?_
              refine lv_istore (lv' := [(4, .int (nI 0)), (3, .int (bI (wthn (((nI 10) * nu) + d0) (nI 1) (nI 12)))), (2, .int (((nI 10) * nu) + d0)), (0, .ref (a 0)), (1, .int d0)]) hx hb dX5_takesDigit_85 hl (by decide) rfl (fun ls hl => ?_)
              refine lv_aload_n hx hb dX5_takesDigit_87 rfl (lv_at hl 3 rfl) ?_
              refine lv_iload hx hb dX5_takesDigit_88 (lv_at hl 0 rfl) ?_
              refine kx_if_eq (tgt := 97) hx hb (by omega) dX5_takesDigit_90 (by decide) (fun c_90_22 => ?_) (fun c => absurd c (by omega))
              refine lv_aload_n hx hb dX5_takesDigit_97 rfl (lv_at hl 3 rfl) ?_
              refine va_get (D := D) (ci := 5) (v := .int nu) (C := RX5) (T := TX5) (N := 12) hx hb hts iX5_takesDigit_5 hown hK hP 0 rfl rfl 8 (by decide) (hts (.fieldLink RX5 134 "HallSightsModel" "number" "I") (List.mem_of_getElem? (i := 1) rfl)) (fun _ h9 => h9) rfl dX5_takesDigit_98 ?_
              refine va_put (D := D) (ci := 5) (v := .int nu) (ty := .int) (C := RX5) (T := TX5) (N := 12) hx hb hts iX5_takesDigit_5 tyX5 tyX5_ok nmX5 hown hK hP hD hS 0 rfl rfl 8 (by decide) (hts (.fieldLink RX5 134 "HallSightsModel" "number" "I") (List.mem_of_getElem? (i := 1) rfl)) (fun _ h9 => h9) rfl (by decide +kernel) rfl rfl (Nat.le_of_ble_eq_true rfl) dX5_takesDigit_101 (fun H locs hP hD hS => ?_)
              have hP : va_P D vwCl (MW a cI z (nI ns) zh (nI nl) tx th pa (nI nrd) nu (nI npt) wy za) H := hP
              have hD : va_D (kA w0) (MW a cI z (nI ns) zh (nI nl) tx th pa (nI nrd) nu (nI npt) wy za) := hD
              refine lv_aload_n hx hb dX5_takesDigit_104 rfl (lv_at hl 3 rfl) ?_
              refine va_get (D := D) (ci := 5) (v := .ref (a 4)) (C := RX5) (T := TX5) (N := 12) hx hb hts iX5_takesDigit_5 hown hK hP 0 rfl rfl 6 (by decide) (hts (.fieldLink RX5 19 "HallSightsModel" "parts" "[I") (List.mem_of_getElem? (i := 3) rfl)) (fun _ h9 => h9) rfl dX5_takesDigit_105 ?_
              refine lv_iconst (v := nI 3) hx hb dX5_takesDigit_108 (by decide) ?_
              refine lv_aload_n hx hb dX5_takesDigit_109 rfl (lv_at hl 3 rfl) ?_
              refine va_get (D := D) (ci := 5) (v := .int (nI nrd)) (C := RX5) (T := TX5) (N := 12) hx hb hts iX5_takesDigit_5 hown hK hP 0 rfl rfl 7 (by decide) (hts (.fieldLink RX5 140 "HallSightsModel" "read" "I") (List.mem_of_getElem? (i := 4) rfl)) (fun _ h9 => h9) rfl dX5_takesDigit_110 ?_
              refine kx_imul hx hb dX5_takesDigit_113 ?_
              refine lv_aload_n hx hb dX5_takesDigit_114 rfl (lv_at hl 3 rfl) ?_
              refine va_get (D := D) (ci := 5) (v := .int (nI npt)) (C := RX5) (T := TX5) (N := 12) hx hb hts iX5_takesDigit_5 hown hK hP 0 rfl rfl 9 (by decide) (hts (.fieldLink RX5 137 "HallSightsModel" "part" "I") (List.mem_of_getElem? (i := 2) rfl)) (fun _ h9 => h9) rfl dX5_takesDigit_115 ?_
              refine kx_iadd hx hb dX5_takesDigit_118 ?_
              refine lv_aload_n hx hb dX5_takesDigit_119 rfl (lv_at hl 3 rfl) ?_
              refine va_get (D := D) (ci := 5) (v := .int nu) (C := RX5) (T := TX5) (N := 12) hx hb hts iX5_takesDigit_5 hown hK hP 0 rfl rfl 8 (by decide) (hts (.fieldLink RX5 134 "HallSightsModel" "number" "I") (List.mem_of_getElem? (i := 1) rfl)) (fun _ h9 => h9) rfl dX5_takesDigit_120 ?_
              refine kx_iast hx hb hK hP hD hS 4 0 rfl rfl (by omega) (by decide) dX5_takesDigit_123 (fun H locs hP hD hS => ?_)
              have hP : va_P D vwCl (MW a cI z (nI ns) zh (nI nl) tx th (upd pa ((3 * nrd) + npt) nu) (nI nrd) nu (nI npt) wy za) H := hP
              have hD : va_D (kA w0) (MW a cI z (nI ns) zh (nI nl) tx th (upd pa ((3 * nrd) + npt) nu) (nI nrd) nu (nI npt) wy za) := hD
              refine lv_iload hx hb dX5_takesDigit_124 (lv_at hl 0 rfl) ?_
              have e_23 : (false : Bool) = (tdB nu npt d0) := by first | rfl | omega | (simp [tdB, tdNu, tdV, tdR, Int32.not_lt, Int32.not_le, c_5_0, c_26_2, Nat.ne_of_gt c_26_2, c_41_4, c_66_7, c_73_14, c_77_20]; done) | (simp [tdB, tdNu, tdV, tdR, Int32.not_lt, Int32.not_le, c_5_0, c_26_2, Nat.ne_of_gt c_26_2, c_41_4, c_66_7, c_73_14, c_77_20]; omega) | (revert c_5_0 c_26_2 c_41_4 c_66_7 c_73_14 c_77_20; simp +contextual [tdB, tdNu, tdV, tdR, Int32.not_lt, Int32.not_le]; done) | (revert c_5_0 c_26_2 c_41_4 c_66_7 c_73_14 c_77_20; simp +contextual [tdB, tdNu, tdV, tdR, Int32.not_lt, Int32.not_le]; omega)
              have ec_pa_24 : ((upd pa ((3 * nrd) + npt) nu) : ZZ) = (upd pa (3 * nrd + npt) (tdNu nu npt d0)) := by first | rfl | omega | (simp [tdB, tdNu, tdV, tdR, Int32.not_lt, Int32.not_le, c_5_0, c_26_2, Nat.ne_of_gt c_26_2, c_41_4, c_66_7, c_73_14, c_77_20]; done) | (simp [tdB, tdNu, tdV, tdR, Int32.not_lt, Int32.not_le, c_5_0, c_26_2, Nat.ne_of_gt c_26_2, c_41_4, c_66_7, c_73_14, c_77_20]; omega) | (revert c_5_0 c_26_2 c_41_4 c_66_7 c_73_14 c_77_20; simp +contextual [tdB, tdNu, tdV, tdR, Int32.not_lt, Int32.not_le]; done) | (revert c_5_0 c_26_2 c_41_4 c_66_7 c_73_14 c_77_20; simp +contextual [tdB, tdNu, tdV, tdR, Int32.not_lt, Int32.not_le]; omega)
              have ec_nu_25 : (nu : Int32) = (tdNu nu npt d0) := by first | rfl | omega | (simp [tdB, tdNu, tdV, tdR, Int32.not_lt, Int32.not_le, c_5_0, c_26_2, Nat.ne_of_gt c_26_2, c_41_4, c_66_7, c_73_14, c_77_20]; done) | (simp [tdB, tdNu, tdV, tdR, Int32.not_lt, Int32.not_le, c_5_0, c_26_2, Nat.ne_of_gt c_26_2, c_41_4, c_66_7, c_73_14, c_77_20]; omega) | (revert c_5_0 c_26_2 c_41_4 c_66_7 c_73_14 c_77_20; simp +contextual [tdB, tdNu, tdV, tdR, Int32.not_lt, Int32.not_le]; done) | (revert c_5_0 c_26_2 c_41_4 c_66_7 c_73_14 c_77_20; simp +contextual [tdB, tdNu, tdV, tdR, Int32.not_lt, Int32.not_le]; omega)
              have ew_26 : (MW a cI z (nI ns) zh (nI nl) tx th (upd pa ((3 * nrd) + npt) nu) (nI nrd) nu (nI npt) wy za : va_W) = (MW a cI z (nI ns) zh (nI nl) tx th (upd pa (3 * nrd + npt) (tdNu nu npt d0)) (nI nrd) (tdNu nu npt d0) (nI npt) wy za) := mw_c rfl rfl rfl rfl rfl rfl ec_pa_24 rfl ec_nu_25 rfl rfl rfl
              rw [ew_26] at hP hD
              subst hw0
              exact kq_zret hx hb hrt hlocks (congrArg bI e_23) hP hD hS dX5_takesDigit_126
            · refine lv_iconst (v := nI 1) hx hb dX5_takesDigit_80 (by decide) ?_
              refine lv_goto (tgt := 85) hx hb dX5_takesDigit_81 (by decide) ?_
              refine lv_istore (lv' := [(4, .int (nI 1)), (3, .int (bI (wthn (((nI 10) * nu) + d0) (nI 1) (nI 12)))), (2, .int (((nI 10) * nu) + d0)), (0, .ref (a 0)), (1, .int d0)]) hx hb dX5_takesDigit_85 hl (by decide) rfl (fun ls hl => ?_)
              refine lv_aload_n hx hb dX5_takesDigit_87 rfl (lv_at hl 3 rfl) ?_
              refine lv_iload hx hb dX5_takesDigit_88 (lv_at hl 0 rfl) ?_
              refine kx_if_eq (tgt := 97) hx hb (by omega) dX5_takesDigit_90 (by decide) (fun c => absurd c (by omega)) (fun c_90_27 => ?_)
              refine lv_iload_n hx hb dX5_takesDigit_93 rfl (lv_at hl 2 rfl) ?_
              refine lv_goto (tgt := 101) hx hb dX5_takesDigit_94 (by decide) ?_
              refine va_put (D := D) (ci := 5) (v := .int (((nI 10) * nu) + d0)) (ty := .int) (C := RX5) (T := TX5) (N := 12) hx hb hts iX5_takesDigit_5 tyX5 tyX5_ok nmX5 hown hK hP hD hS 0 rfl rfl 8 (by decide) (hts (.fieldLink RX5 134 "HallSightsModel" "number" "I") (List.mem_of_getElem? (i := 1) rfl)) (fun _ h9 => h9) rfl (by decide +kernel) rfl rfl (Nat.le_of_ble_eq_true rfl) dX5_takesDigit_101 (fun H locs hP hD hS => ?_)
              have hP : va_P D vwCl (MW a cI z (nI ns) zh (nI nl) tx th pa (nI nrd) (((nI 10) * nu) + d0) (nI npt) wy za) H := hP
              have hD : va_D (kA w0) (MW a cI z (nI ns) zh (nI nl) tx th pa (nI nrd) (((nI 10) * nu) + d0) (nI npt) wy za) := hD
              refine lv_aload_n hx hb dX5_takesDigit_104 rfl (lv_at hl 3 rfl) ?_
              refine va_get (D := D) (ci := 5) (v := .ref (a 4)) (C := RX5) (T := TX5) (N := 12) hx hb hts iX5_takesDigit_5 hown hK hP 0 rfl rfl 6 (by decide) (hts (.fieldLink RX5 19 "HallSightsModel" "parts" "[I") (List.mem_of_getElem? (i := 3) rfl)) (fun _ h9 => h9) rfl dX5_takesDigit_105 ?_
              refine lv_iconst (v := nI 3) hx hb dX5_takesDigit_108 (by decide) ?_
              refine lv_aload_n hx hb dX5_takesDigit_109 rfl (lv_at hl 3 rfl) ?_
              refine va_get (D := D) (ci := 5) (v := .int (nI nrd)) (C := RX5) (T := TX5) (N := 12) hx hb hts iX5_takesDigit_5 hown hK hP 0 rfl rfl 7 (by decide) (hts (.fieldLink RX5 140 "HallSightsModel" "read" "I") (List.mem_of_getElem? (i := 4) rfl)) (fun _ h9 => h9) rfl dX5_takesDigit_110 ?_
              refine kx_imul hx hb dX5_takesDigit_113 ?_
              refine lv_aload_n hx hb dX5_takesDigit_114 rfl (lv_at hl 3 rfl) ?_
              refine va_get (D := D) (ci := 5) (v := .int (nI npt)) (C := RX5) (T := TX5) (N := 12) hx hb hts iX5_takesDigit_5 hown hK hP 0 rfl rfl 9 (by decide) (hts (.fieldLink RX5 137 "HallSightsModel" "part" "I") (List.mem_of_getElem? (i := 2) rfl)) (fun _ h9 => h9) rfl dX5_takesDigit_115 ?_
              refine kx_iadd hx hb dX5_takesDigit_118 ?_
              refine lv_aload_n hx hb dX5_takesDigit_119 rfl (lv_at hl 3 rfl) ?_
              refine va_get (D := D) (ci := 5) (v := .int (((nI 10) * nu) + d0)) (C := RX5) (T := TX5) (N := 12) hx hb hts iX5_takesDigit_5 hown hK hP 0 rfl rfl 8 (by decide) (hts (.fieldLink RX5 134 "HallSightsModel" "number" "I") (List.mem_of_getElem? (i := 1) rfl)) (fun _ h9 => h9) rfl dX5_takesDigit_120 ?_
              refine kx_iast hx hb hK hP hD hS 4 0 rfl rfl (by omega) (by decide) dX5_takesDigit_123 (fun H locs hP hD hS => ?_)
              have hP : va_P D vwCl (MW a cI z (nI ns) zh (nI nl) tx th (upd pa ((3 * nrd) + npt) (((nI 10) * nu) + d0)) (nI nrd) (((nI 10) * nu) + d0) (nI npt) wy za) H := hP
              have hD : va_D (kA w0) (MW a cI z (nI ns) zh (nI nl) tx th (upd pa ((3 * nrd) + npt) (((nI 10) * nu) + d0)) (nI nrd) (((nI 10) * nu) + d0) (nI npt) wy za) := hD
              refine lv_iload hx hb dX5_takesDigit_124 (lv_at hl 0 rfl) ?_
              have e_28 : (true : Bool) = (tdB nu npt d0) := by first | rfl | omega | (simp [tdB, tdNu, tdV, tdR, Int32.not_lt, Int32.not_le, c_5_0, c_26_2, Nat.ne_of_gt c_26_2, c_41_4, c_66_7, c_73_14, c_77_21]; done) | (simp [tdB, tdNu, tdV, tdR, Int32.not_lt, Int32.not_le, c_5_0, c_26_2, Nat.ne_of_gt c_26_2, c_41_4, c_66_7, c_73_14, c_77_21]; omega) | (revert c_5_0 c_26_2 c_41_4 c_66_7 c_73_14 c_77_21; simp +contextual [tdB, tdNu, tdV, tdR, Int32.not_lt, Int32.not_le]; done) | (revert c_5_0 c_26_2 c_41_4 c_66_7 c_73_14 c_77_21; simp +contextual [tdB, tdNu, tdV, tdR, Int32.not_lt, Int32.not_le]; omega)
              have ec_pa_29 : ((upd pa ((3 * nrd) + npt) (((nI 10) * nu) + d0)) : ZZ) = (upd pa (3 * nrd + npt) (tdNu nu npt d0)) := by first | rfl | omega | (simp [tdB, tdNu, tdV, tdR, Int32.not_lt, Int32.not_le, c_5_0, c_26_2, Nat.ne_of_gt c_26_2, c_41_4, c_66_7, c_73_14, c_77_21]; done) | (simp [tdB, tdNu, tdV, tdR, Int32.not_lt, Int32.not_le, c_5_0, c_26_2, Nat.ne_of_gt c_26_2, c_41_4, c_66_7, c_73_14, c_77_21]; omega) | (revert c_5_0 c_26_2 c_41_4 c_66_7 c_73_14 c_77_21; simp +contextual [tdB, tdNu, tdV, tdR, Int32.not_lt, Int32.not_le]; done) | (revert c_5_0 c_26_2 c_41_4 c_66_7 c_73_14 c_77_21; simp +contextual [tdB, tdNu, tdV, tdR, Int32.not_lt, Int32.not_le]; omega)
              have ec_nu_30 : ((((nI 10) * nu) + d0) : Int32) = (tdNu nu npt d0) := by first | rfl | omega | (simp [tdB, tdNu, tdV, tdR, Int32.not_lt, Int32.not_le, c_5_0, c_26_2, Nat.ne_of_gt c_26_2, c_41_4, c_66_7, c_73_14, c_77_21]; done) | (simp [tdB, tdNu, tdV, tdR, Int32.not_lt, Int32.not_le, c_5_0, c_26_2, Nat.ne_of_gt c_26_2, c_41_4, c_66_7, c_73_14, c_77_21]; omega) | (revert c_5_0 c_26_2 c_41_4 c_66_7 c_73_14 c_77_21; simp +contextual [tdB, tdNu, tdV, tdR, Int32.not_lt, Int32.not_le]; done) | (revert c_5_0 c_26_2 c_41_4 c_66_7 c_73_14 c_77_21; simp +contextual [tdB, tdNu, tdV, tdR, Int32.not_lt, Int32.not_le]; omega)
              have ew_31 : (MW a cI z (nI ns) zh (nI nl) tx th (upd pa ((3 * nrd) + npt) (((nI 10) * nu) + d0)) (nI nrd) (((nI 10) * nu) + d0) (nI npt) wy za : va_W) = (MW a cI z (nI ns) zh (nI nl) tx th (upd pa (3 * nrd + npt) (tdNu nu npt d0)) (nI nrd) (tdNu nu npt d0) (nI npt) wy za) := mw_c rfl rfl rfl rfl rfl rfl ec_pa_29 rfl ec_nu_30 rfl rfl rfl
              rw [ew_31] at hP hD
              subst hw0
              exact kq_zret hx hb hrt hlocks (congrArg bI e_28) hP hD hS dX5_takesDigit_126
      · refine lv_iload_n hx hb dX5_takesDigit_44 rfl (lv_at hl 0 rfl) ?_
        refine kr_S (As := [.int (((nI 10) * nu) + d0)]) (rest := []) (own := RX5) ⟨hx, hb, hml, hown, hts⟩ (c_X5_isHeight l D cI cC cH cL  (((nI 10) * nu) + d0) ) (va_cwS 1 hts gX5_takesDigit_X5_isHeight rfl rfl rfl k_X5_isHeightS ⟨Nat.le_of_ble_eq_true rfl, Nat.le_of_ble_eq_true rfl⟩) (hP.sub (ws' := []) [] rfl) hK rfl hl.1 rfl (Nat.le_of_ble_eq_true rfl) dX5_takesDigit_45 ⟨Nat.le_of_ble_eq_true rfl, Nat.le_of_ble_eq_true rfl⟩ ?_
        refine lv_goto (tgt := 58) hx hb dX5_takesDigit_48 (by decide) ?_
        refine lv_istore_n (lv' := [(3, .int (bI (wthn (((nI 10) * nu) + d0) (nI 0) (nI 999)))), (2, .int (((nI 10) * nu) + d0)), (0, .ref (a 0)), (1, .int d0)]) hx hb dX5_takesDigit_58 rfl hl (by decide) rfl (fun ls hl => ?_)
        refine lv_iload_n hx hb dX5_takesDigit_59 rfl (lv_at hl 3 rfl) ?_
        refine lv_iconst (v := nI 0) hx hb dX5_takesDigit_60 (by decide) ?_
        refine lv_bipush (v := nI 9) hx hb dX5_takesDigit_61 (by decide) ?_
        refine kr_S (As := [.int d0, .int (nI 0), .int (nI 9)]) (rest := []) (own := RX5) ⟨hx, hb, hml, hown, hts⟩ (c_X5_within l D cI cC cH cL  d0 (nI 0) (nI 9) ) (va_cwS 3 hts gX5_takesDigit_X5_within rfl rfl rfl k_X5_withinS ⟨Nat.le_of_ble_eq_true rfl, Nat.le_of_ble_eq_true rfl⟩) (hP.sub (ws' := []) [] rfl) hK rfl hl.1 rfl (Nat.le_of_ble_eq_true rfl) dX5_takesDigit_63 ⟨Nat.le_of_ble_eq_true rfl, Nat.le_of_ble_eq_true rfl⟩ ?_
        refine kx_if_eqb (tgt := 84) hx hb dX5_takesDigit_66 (by decide) (fun c_66_32 => ?_) (fun c_66_33 => ?_)
        · refine lv_iconst (v := nI 0) hx hb dX5_takesDigit_84 (by decide) ?_
          refine lv_istore (lv' := [(4, .int (nI 0)), (3, .int (bI (wthn (((nI 10) * nu) + d0) (nI 0) (nI 999)))), (2, .int (((nI 10) * nu) + d0)), (0, .ref (a 0)), (1, .int d0)]) hx hb dX5_takesDigit_85 hl (by decide) rfl (fun ls hl => ?_)
          refine lv_aload_n hx hb dX5_takesDigit_87 rfl (lv_at hl 3 rfl) ?_
          refine lv_iload hx hb dX5_takesDigit_88 (lv_at hl 0 rfl) ?_
          refine kx_if_eq (tgt := 97) hx hb (by omega) dX5_takesDigit_90 (by decide) (fun c_90_34 => ?_) (fun c => absurd c (by omega))
          refine lv_aload_n hx hb dX5_takesDigit_97 rfl (lv_at hl 3 rfl) ?_
          refine va_get (D := D) (ci := 5) (v := .int nu) (C := RX5) (T := TX5) (N := 12) hx hb hts iX5_takesDigit_5 hown hK hP 0 rfl rfl 8 (by decide) (hts (.fieldLink RX5 134 "HallSightsModel" "number" "I") (List.mem_of_getElem? (i := 1) rfl)) (fun _ h9 => h9) rfl dX5_takesDigit_98 ?_
          refine va_put (D := D) (ci := 5) (v := .int nu) (ty := .int) (C := RX5) (T := TX5) (N := 12) hx hb hts iX5_takesDigit_5 tyX5 tyX5_ok nmX5 hown hK hP hD hS 0 rfl rfl 8 (by decide) (hts (.fieldLink RX5 134 "HallSightsModel" "number" "I") (List.mem_of_getElem? (i := 1) rfl)) (fun _ h9 => h9) rfl (by decide +kernel) rfl rfl (Nat.le_of_ble_eq_true rfl) dX5_takesDigit_101 (fun H locs hP hD hS => ?_)
          have hP : va_P D vwCl (MW a cI z (nI ns) zh (nI nl) tx th pa (nI nrd) nu (nI npt) wy za) H := hP
          have hD : va_D (kA w0) (MW a cI z (nI ns) zh (nI nl) tx th pa (nI nrd) nu (nI npt) wy za) := hD
          refine lv_aload_n hx hb dX5_takesDigit_104 rfl (lv_at hl 3 rfl) ?_
          refine va_get (D := D) (ci := 5) (v := .ref (a 4)) (C := RX5) (T := TX5) (N := 12) hx hb hts iX5_takesDigit_5 hown hK hP 0 rfl rfl 6 (by decide) (hts (.fieldLink RX5 19 "HallSightsModel" "parts" "[I") (List.mem_of_getElem? (i := 3) rfl)) (fun _ h9 => h9) rfl dX5_takesDigit_105 ?_
          refine lv_iconst (v := nI 3) hx hb dX5_takesDigit_108 (by decide) ?_
          refine lv_aload_n hx hb dX5_takesDigit_109 rfl (lv_at hl 3 rfl) ?_
          refine va_get (D := D) (ci := 5) (v := .int (nI nrd)) (C := RX5) (T := TX5) (N := 12) hx hb hts iX5_takesDigit_5 hown hK hP 0 rfl rfl 7 (by decide) (hts (.fieldLink RX5 140 "HallSightsModel" "read" "I") (List.mem_of_getElem? (i := 4) rfl)) (fun _ h9 => h9) rfl dX5_takesDigit_110 ?_
          refine kx_imul hx hb dX5_takesDigit_113 ?_
          refine lv_aload_n hx hb dX5_takesDigit_114 rfl (lv_at hl 3 rfl) ?_
          refine va_get (D := D) (ci := 5) (v := .int (nI npt)) (C := RX5) (T := TX5) (N := 12) hx hb hts iX5_takesDigit_5 hown hK hP 0 rfl rfl 9 (by decide) (hts (.fieldLink RX5 137 "HallSightsModel" "part" "I") (List.mem_of_getElem? (i := 2) rfl)) (fun _ h9 => h9) rfl dX5_takesDigit_115 ?_
          refine kx_iadd hx hb dX5_takesDigit_118 ?_
          refine lv_aload_n hx hb dX5_takesDigit_119 rfl (lv_at hl 3 rfl) ?_
          refine va_get (D := D) (ci := 5) (v := .int nu) (C := RX5) (T := TX5) (N := 12) hx hb hts iX5_takesDigit_5 hown hK hP 0 rfl rfl 8 (by decide) (hts (.fieldLink RX5 134 "HallSightsModel" "number" "I") (List.mem_of_getElem? (i := 1) rfl)) (fun _ h9 => h9) rfl dX5_takesDigit_120 ?_
          refine kx_iast hx hb hK hP hD hS 4 0 rfl rfl (by omega) (by decide) dX5_takesDigit_123 (fun H locs hP hD hS => ?_)
          have hP : va_P D vwCl (MW a cI z (nI ns) zh (nI nl) tx th (upd pa ((3 * nrd) + npt) nu) (nI nrd) nu (nI npt) wy za) H := hP
          have hD : va_D (kA w0) (MW a cI z (nI ns) zh (nI nl) tx th (upd pa ((3 * nrd) + npt) nu) (nI nrd) nu (nI npt) wy za) := hD
          refine lv_iload hx hb dX5_takesDigit_124 (lv_at hl 0 rfl) ?_
          have e_35 : (false : Bool) = (tdB nu npt d0) := by first | rfl | omega | (simp [tdB, tdNu, tdV, tdR, Int32.not_lt, Int32.not_le, c_5_0, c_26_2, Nat.ne_of_gt c_26_2, c_41_5, c_66_32]; done) | (simp [tdB, tdNu, tdV, tdR, Int32.not_lt, Int32.not_le, c_5_0, c_26_2, Nat.ne_of_gt c_26_2, c_41_5, c_66_32]; omega) | (revert c_5_0 c_26_2 c_41_5 c_66_32; simp +contextual [tdB, tdNu, tdV, tdR, Int32.not_lt, Int32.not_le]; done) | (revert c_5_0 c_26_2 c_41_5 c_66_32; simp +contextual [tdB, tdNu, tdV, tdR, Int32.not_lt, Int32.not_le]; omega)
          have ec_pa_36 : ((upd pa ((3 * nrd) + npt) nu) : ZZ) = (upd pa (3 * nrd + npt) (tdNu nu npt d0)) := by first | rfl | omega | (simp [tdB, tdNu, tdV, tdR, Int32.not_lt, Int32.not_le, c_5_0, c_26_2, Nat.ne_of_gt c_26_2, c_41_5, c_66_32]; done) | (simp [tdB, tdNu, tdV, tdR, Int32.not_lt, Int32.not_le, c_5_0, c_26_2, Nat.ne_of_gt c_26_2, c_41_5, c_66_32]; omega) | (revert c_5_0 c_26_2 c_41_5 c_66_32; simp +contextual [tdB, tdNu, tdV, tdR, Int32.not_lt, Int32.not_le]; done) | (revert c_5_0 c_26_2 c_41_5 c_66_32; simp +contextual [tdB, tdNu, tdV, tdR, Int32.not_lt, Int32.not_le]; omega)
          have ec_nu_37 : (nu : Int32) = (tdNu nu npt d0) := by first | rfl | omega | (simp [tdB, tdNu, tdV, tdR, Int32.not_lt, Int32.not_le, c_5_0, c_26_2, Nat.ne_of_gt c_26_2, c_41_5, c_66_32]; done) | (simp [tdB, tdNu, tdV, tdR, Int32.not_lt, Int32.not_le, c_5_0, c_26_2, Nat.ne_of_gt c_26_2, c_41_5, c_66_32]; omega) | (revert c_5_0 c_26_2 c_41_5 c_66_32; simp +contextual [tdB, tdNu, tdV, tdR, Int32.not_lt, Int32.not_le]; done) | (revert c_5_0 c_26_2 c_41_5 c_66_32; simp +contextual [tdB, tdNu, tdV, tdR, Int32.not_lt, Int32.not_le]; omega)
          have ew_38 : (MW a cI z (nI ns) zh (nI nl) tx th (upd pa ((3 * nrd) + npt) nu) (nI nrd) nu (nI npt) wy za : va_W) = (MW a cI z (nI ns) zh (nI nl) tx th (upd pa (3 * nrd + npt) (tdNu nu npt d0)) (nI nrd) (tdNu nu npt d0) (nI npt) wy za) := mw_c rfl rfl rfl rfl rfl rfl ec_pa_36 rfl ec_nu_37 rfl rfl rfl
          rw [ew_38] at hP hD
          subst hw0
          exact kq_zret hx hb hrt hlocks (congrArg bI e_35) hP hD hS dX5_takesDigit_126
        · refine lv_aload_n hx hb dX5_takesDigit_69 rfl (lv_at hl 2 rfl) ?_
          refine va_get (D := D) (ci := 5) (v := .int nu) (C := RX5) (T := TX5) (N := 12) hx hb hts iX5_takesDigit_5 hown hK hP 0 rfl rfl 8 (by decide) (hts (.fieldLink RX5 134 "HallSightsModel" "number" "I") (List.mem_of_getElem? (i := 1) rfl)) (fun _ h9 => h9) rfl dX5_takesDigit_70 ?_
          refine lv_if_eq (tgt := 84) hx hb dX5_takesDigit_73 (by decide) (fun c_73_39 => ?_) (fun c_73_40 => ?_)
          · have c_73_39 : (nu : Int32) = 0 := c_73_39
            refine lv_iconst (v := nI 0) hx hb dX5_takesDigit_84 (by decide) ?_
            refine lv_istore (lv' := [(4, .int (nI 0)), (3, .int (bI (wthn (((nI 10) * nu) + d0) (nI 0) (nI 999)))), (2, .int (((nI 10) * nu) + d0)), (0, .ref (a 0)), (1, .int d0)]) hx hb dX5_takesDigit_85 hl (by decide) rfl (fun ls hl => ?_)
            refine lv_aload_n hx hb dX5_takesDigit_87 rfl (lv_at hl 3 rfl) ?_
            refine lv_iload hx hb dX5_takesDigit_88 (lv_at hl 0 rfl) ?_
            refine kx_if_eq (tgt := 97) hx hb (by omega) dX5_takesDigit_90 (by decide) (fun c_90_41 => ?_) (fun c => absurd c (by omega))
            refine lv_aload_n hx hb dX5_takesDigit_97 rfl (lv_at hl 3 rfl) ?_
            refine va_get (D := D) (ci := 5) (v := .int nu) (C := RX5) (T := TX5) (N := 12) hx hb hts iX5_takesDigit_5 hown hK hP 0 rfl rfl 8 (by decide) (hts (.fieldLink RX5 134 "HallSightsModel" "number" "I") (List.mem_of_getElem? (i := 1) rfl)) (fun _ h9 => h9) rfl dX5_takesDigit_98 ?_
            refine va_put (D := D) (ci := 5) (v := .int nu) (ty := .int) (C := RX5) (T := TX5) (N := 12) hx hb hts iX5_takesDigit_5 tyX5 tyX5_ok nmX5 hown hK hP hD hS 0 rfl rfl 8 (by decide) (hts (.fieldLink RX5 134 "HallSightsModel" "number" "I") (List.mem_of_getElem? (i := 1) rfl)) (fun _ h9 => h9) rfl (by decide +kernel) rfl rfl (Nat.le_of_ble_eq_true rfl) dX5_takesDigit_101 (fun H locs hP hD hS => ?_)
            have hP : va_P D vwCl (MW a cI z (nI ns) zh (nI nl) tx th pa (nI nrd) nu (nI npt) wy za) H := hP
            have hD : va_D (kA w0) (MW a cI z (nI ns) zh (nI nl) tx th pa (nI nrd) nu (nI npt) wy za) := hD
            refine lv_aload_n hx hb dX5_takesDigit_104 rfl (lv_at hl 3 rfl) ?_
            refine va_get (D := D) (ci := 5) (v := .ref (a 4)) (C := RX5) (T := TX5) (N := 12) hx hb hts iX5_takesDigit_5 hown hK hP 0 rfl rfl 6 (by decide) (hts (.fieldLink RX5 19 "HallSightsModel" "parts" "[I") (List.mem_of_getElem? (i := 3) rfl)) (fun _ h9 => h9) rfl dX5_takesDigit_105 ?_
            refine lv_iconst (v := nI 3) hx hb dX5_takesDigit_108 (by decide) ?_
            refine lv_aload_n hx hb dX5_takesDigit_109 rfl (lv_at hl 3 rfl) ?_
            refine va_get (D := D) (ci := 5) (v := .int (nI nrd)) (C := RX5) (T := TX5) (N := 12) hx hb hts iX5_takesDigit_5 hown hK hP 0 rfl rfl 7 (by decide) (hts (.fieldLink RX5 140 "HallSightsModel" "read" "I") (List.mem_of_getElem? (i := 4) rfl)) (fun _ h9 => h9) rfl dX5_takesDigit_110 ?_
            refine kx_imul hx hb dX5_takesDigit_113 ?_
            refine lv_aload_n hx hb dX5_takesDigit_114 rfl (lv_at hl 3 rfl) ?_
            refine va_get (D := D) (ci := 5) (v := .int (nI npt)) (C := RX5) (T := TX5) (N := 12) hx hb hts iX5_takesDigit_5 hown hK hP 0 rfl rfl 9 (by decide) (hts (.fieldLink RX5 137 "HallSightsModel" "part" "I") (List.mem_of_getElem? (i := 2) rfl)) (fun _ h9 => h9) rfl dX5_takesDigit_115 ?_
            refine kx_iadd hx hb dX5_takesDigit_118 ?_
            refine lv_aload_n hx hb dX5_takesDigit_119 rfl (lv_at hl 3 rfl) ?_
            refine va_get (D := D) (ci := 5) (v := .int nu) (C := RX5) (T := TX5) (N := 12) hx hb hts iX5_takesDigit_5 hown hK hP 0 rfl rfl 8 (by decide) (hts (.fieldLink RX5 134 "HallSightsModel" "number" "I") (List.mem_of_getElem? (i := 1) rfl)) (fun _ h9 => h9) rfl dX5_takesDigit_120 ?_
            refine kx_iast hx hb hK hP hD hS 4 0 rfl rfl (by omega) (by decide) dX5_takesDigit_123 (fun H locs hP hD hS => ?_)
            have hP : va_P D vwCl (MW a cI z (nI ns) zh (nI nl) tx th (upd pa ((3 * nrd) + npt) nu) (nI nrd) nu (nI npt) wy za) H := hP
            have hD : va_D (kA w0) (MW a cI z (nI ns) zh (nI nl) tx th (upd pa ((3 * nrd) + npt) nu) (nI nrd) nu (nI npt) wy za) := hD
            refine lv_iload hx hb dX5_takesDigit_124 (lv_at hl 0 rfl) ?_
            have e_42 : (false : Bool) = (tdB nu npt d0) := by first | rfl | omega | (simp [tdB, tdNu, tdV, tdR, Int32.not_lt, Int32.not_le, c_5_0, c_26_2, Nat.ne_of_gt c_26_2, c_41_5, c_66_33, c_73_39]; done) | (simp [tdB, tdNu, tdV, tdR, Int32.not_lt, Int32.not_le, c_5_0, c_26_2, Nat.ne_of_gt c_26_2, c_41_5, c_66_33, c_73_39]; omega) | (revert c_5_0 c_26_2 c_41_5 c_66_33 c_73_39; simp +contextual [tdB, tdNu, tdV, tdR, Int32.not_lt, Int32.not_le]; done) | (revert c_5_0 c_26_2 c_41_5 c_66_33 c_73_39; simp +contextual [tdB, tdNu, tdV, tdR, Int32.not_lt, Int32.not_le]; omega)
            have ec_pa_43 : ((upd pa ((3 * nrd) + npt) nu) : ZZ) = (upd pa (3 * nrd + npt) (tdNu nu npt d0)) := by first | rfl | omega | (simp [tdB, tdNu, tdV, tdR, Int32.not_lt, Int32.not_le, c_5_0, c_26_2, Nat.ne_of_gt c_26_2, c_41_5, c_66_33, c_73_39]; done) | (simp [tdB, tdNu, tdV, tdR, Int32.not_lt, Int32.not_le, c_5_0, c_26_2, Nat.ne_of_gt c_26_2, c_41_5, c_66_33, c_73_39]; omega) | (revert c_5_0 c_26_2 c_41_5 c_66_33 c_73_39; simp +contextual [tdB, tdNu, tdV, tdR, Int32.not_lt, Int32.not_le]; done) | (revert c_5_0 c_26_2 c_41_5 c_66_33 c_73_39; simp +contextual [tdB, tdNu, tdV, tdR, Int32.not_lt, Int32.not_le]; omega)
            have ec_nu_44 : (nu : Int32) = (tdNu nu npt d0) := by first | rfl | omega | (simp [tdB, tdNu, tdV, tdR, Int32.not_lt, Int32.not_le, c_5_0, c_26_2, Nat.ne_of_gt c_26_2, c_41_5, c_66_33, c_73_39]; done) | (simp [tdB, tdNu, tdV, tdR, Int32.not_lt, Int32.not_le, c_5_0, c_26_2, Nat.ne_of_gt c_26_2, c_41_5, c_66_33, c_73_39]; omega) | (revert c_5_0 c_26_2 c_41_5 c_66_33 c_73_39; simp +contextual [tdB, tdNu, tdV, tdR, Int32.not_lt, Int32.not_le]; done) | (revert c_5_0 c_26_2 c_41_5 c_66_33 c_73_39; simp +contextual [tdB, tdNu, tdV, tdR, Int32.not_lt, Int32.not_le]; omega)
            have ew_45 : (MW a cI z (nI ns) zh (nI nl) tx th (upd pa ((3 * nrd) + npt) nu) (nI nrd) nu (nI npt) wy za : va_W) = (MW a cI z (nI ns) zh (nI nl) tx th (upd pa (3 * nrd + npt) (tdNu nu npt d0)) (nI nrd) (tdNu nu npt d0) (nI npt) wy za) := mw_c rfl rfl rfl rfl rfl rfl ec_pa_43 rfl ec_nu_44 rfl rfl rfl
            rw [ew_45] at hP hD
            subst hw0
            exact kq_zret hx hb hrt hlocks (congrArg bI e_42) hP hD hS dX5_takesDigit_126
          · have c_73_40 : ¬ (nu : Int32) = 0 := c_73_40
            refine lv_iload_n hx hb dX5_takesDigit_76 rfl (lv_at hl 0 rfl) ?_
            refine kx_if_eqb (tgt := 84) hx hb dX5_takesDigit_77 (by decide) (fun c_77_46 => ?_) (fun c_77_47 => ?_)
            · refine lv_iconst (v := nI 0) hx hb dX5_takesDigit_84 (by decide) ?_
              refine lv_istore (lv' := [(4, .int (nI 0)), (3, .int (bI (wthn (((nI 10) * nu) + d0) (nI 0) (nI 999)))), (2, .int (((nI 10) * nu) + d0)), (0, .ref (a 0)), (1, .int d0)]) hx hb dX5_takesDigit_85 hl (by decide) rfl (fun ls hl => ?_)
              refine lv_aload_n hx hb dX5_takesDigit_87 rfl (lv_at hl 3 rfl) ?_
              refine lv_iload hx hb dX5_takesDigit_88 (lv_at hl 0 rfl) ?_
              refine kx_if_eq (tgt := 97) hx hb (by omega) dX5_takesDigit_90 (by decide) (fun c_90_48 => ?_) (fun c => absurd c (by omega))
              refine lv_aload_n hx hb dX5_takesDigit_97 rfl (lv_at hl 3 rfl) ?_
              refine va_get (D := D) (ci := 5) (v := .int nu) (C := RX5) (T := TX5) (N := 12) hx hb hts iX5_takesDigit_5 hown hK hP 0 rfl rfl 8 (by decide) (hts (.fieldLink RX5 134 "HallSightsModel" "number" "I") (List.mem_of_getElem? (i := 1) rfl)) (fun _ h9 => h9) rfl dX5_takesDigit_98 ?_
              refine va_put (D := D) (ci := 5) (v := .int nu) (ty := .int) (C := RX5) (T := TX5) (N := 12) hx hb hts iX5_takesDigit_5 tyX5 tyX5_ok nmX5 hown hK hP hD hS 0 rfl rfl 8 (by decide) (hts (.fieldLink RX5 134 "HallSightsModel" "number" "I") (List.mem_of_getElem? (i := 1) rfl)) (fun _ h9 => h9) rfl (by decide +kernel) rfl rfl (Nat.le_of_ble_eq_true rfl) dX5_takesDigit_101 (fun H locs hP hD hS => ?_)
              have hP : va_P D vwCl (MW a cI z (nI ns) zh (nI nl) tx th pa (nI nrd) nu (nI npt) wy za) H := hP
              have hD : va_D (kA w0) (MW a cI z (nI ns) zh (nI nl) tx th pa (nI nrd) nu (nI npt) wy za) := hD
              refine lv_aload_n hx hb dX5_takesDigit_104 rfl (lv_at hl 3 rfl) ?_
              refine va_get (D := D) (ci := 5) (v := .ref (a 4)) (C := RX5) (T := TX5) (N := 12) hx hb hts iX5_takesDigit_5 hown hK hP 0 rfl rfl 6 (by decide) (hts (.fieldLink RX5 19 "HallSightsModel" "parts" "[I") (List.mem_of_getElem? (i := 3) rfl)) (fun _ h9 => h9) rfl dX5_takesDigit_105 ?_
              refine lv_iconst (v := nI 3) hx hb dX5_takesDigit_108 (by decide) ?_
              refine lv_aload_n hx hb dX5_takesDigit_109 rfl (lv_at hl 3 rfl) ?_
              refine va_get (D := D) (ci := 5) (v := .int (nI nrd)) (C := RX5) (T := TX5) (N := 12) hx hb hts iX5_takesDigit_5 hown hK hP 0 rfl rfl 7 (by decide) (hts (.fieldLink RX5 140 "HallSightsModel" "read" "I") (List.mem_of_getElem? (i := 4) rfl)) (fun _ h9 => h9) rfl dX5_takesDigit_110 ?_
              refine kx_imul hx hb dX5_takesDigit_113 ?_
              refine lv_aload_n hx hb dX5_takesDigit_114 rfl (lv_at hl 3 rfl) ?_
              refine va_get (D := D) (ci := 5) (v := .int (nI npt)) (C := RX5) (T := TX5) (N := 12) hx hb hts iX5_takesDigit_5 hown hK hP 0 rfl rfl 9 (by decide) (hts (.fieldLink RX5 137 "HallSightsModel" "part" "I") (List.mem_of_getElem? (i := 2) rfl)) (fun _ h9 => h9) rfl dX5_takesDigit_115 ?_
              refine kx_iadd hx hb dX5_takesDigit_118 ?_
              refine lv_aload_n hx hb dX5_takesDigit_119 rfl (lv_at hl 3 rfl) ?_
              refine va_get (D := D) (ci := 5) (v := .int nu) (C := RX5) (T := TX5) (N := 12) hx hb hts iX5_takesDigit_5 hown hK hP 0 rfl rfl 8 (by decide) (hts (.fieldLink RX5 134 "HallSightsModel" "number" "I") (List.mem_of_getElem? (i := 1) rfl)) (fun _ h9 => h9) rfl dX5_takesDigit_120 ?_
              refine kx_iast hx hb hK hP hD hS 4 0 rfl rfl (by omega) (by decide) dX5_takesDigit_123 (fun H locs hP hD hS => ?_)
              have hP : va_P D vwCl (MW a cI z (nI ns) zh (nI nl) tx th (upd pa ((3 * nrd) + npt) nu) (nI nrd) nu (nI npt) wy za) H := hP
              have hD : va_D (kA w0) (MW a cI z (nI ns) zh (nI nl) tx th (upd pa ((3 * nrd) + npt) nu) (nI nrd) nu (nI npt) wy za) := hD
              refine lv_iload hx hb dX5_takesDigit_124 (lv_at hl 0 rfl) ?_
              have e_49 : (false : Bool) = (tdB nu npt d0) := by first | rfl | omega | (simp [tdB, tdNu, tdV, tdR, Int32.not_lt, Int32.not_le, c_5_0, c_26_2, Nat.ne_of_gt c_26_2, c_41_5, c_66_33, c_73_40, c_77_46]; done) | (simp [tdB, tdNu, tdV, tdR, Int32.not_lt, Int32.not_le, c_5_0, c_26_2, Nat.ne_of_gt c_26_2, c_41_5, c_66_33, c_73_40, c_77_46]; omega) | (revert c_5_0 c_26_2 c_41_5 c_66_33 c_73_40 c_77_46; simp +contextual [tdB, tdNu, tdV, tdR, Int32.not_lt, Int32.not_le]; done) | (revert c_5_0 c_26_2 c_41_5 c_66_33 c_73_40 c_77_46; simp +contextual [tdB, tdNu, tdV, tdR, Int32.not_lt, Int32.not_le]; omega)
              have ec_pa_50 : ((upd pa ((3 * nrd) + npt) nu) : ZZ) = (upd pa (3 * nrd + npt) (tdNu nu npt d0)) := by first | rfl | omega | (simp [tdB, tdNu, tdV, tdR, Int32.not_lt, Int32.not_le, c_5_0, c_26_2, Nat.ne_of_gt c_26_2, c_41_5, c_66_33, c_73_40, c_77_46]; done) | (simp [tdB, tdNu, tdV, tdR, Int32.not_lt, Int32.not_le, c_5_0, c_26_2, Nat.ne_of_gt c_26_2, c_41_5, c_66_33, c_73_40, c_77_46]; omega) | (revert c_5_0 c_26_2 c_41_5 c_66_33 c_73_40 c_77_46; simp +contextual [tdB, tdNu, tdV, tdR, Int32.not_lt, Int32.not_le]; done) | (revert c_5_0 c_26_2 c_41_5 c_66_33 c_73_40 c_77_46; simp +contextual [tdB, tdNu, tdV, tdR, Int32.not_lt, Int32.not_le]; omega)
              have ec_nu_51 : (nu : Int32) = (tdNu nu npt d0) := by first | rfl | omega | (simp [tdB, tdNu, tdV, tdR, Int32.not_lt, Int32.not_le, c_5_0, c_26_2, Nat.ne_of_gt c_26_2, c_41_5, c_66_33, c_73_40, c_77_46]; done) | (simp [tdB, tdNu, tdV, tdR, Int32.not_lt, Int32.not_le, c_5_0, c_26_2, Nat.ne_of_gt c_26_2, c_41_5, c_66_33, c_73_40, c_77_46]; omega) | (revert c_5_0 c_26_2 c_41_5 c_66_33 c_73_40 c_77_46; simp +contextual [tdB, tdNu, tdV, tdR, Int32.not_lt, Int32.not_le]; done) | (revert c_5_0 c_26_2 c_41_5 c_66_33 c_73_40 c_77_46; simp +contextual [tdB, tdNu, tdV, tdR, Int32.not_lt, Int32.not_le]; omega)
              have ew_52 : (MW a cI z (nI ns) zh (nI nl) tx th (upd pa ((3 * nrd) + npt) nu) (nI nrd) nu (nI npt) wy za : va_W) = (MW a cI z (nI ns) zh (nI nl) tx th (upd pa (3 * nrd + npt) (tdNu nu npt d0)) (nI nrd) (tdNu nu npt d0) (nI npt) wy za) := mw_c rfl rfl rfl rfl rfl rfl ec_pa_50 rfl ec_nu_51 rfl rfl rfl
              rw [ew_52] at hP hD
              subst hw0
              exact kq_zret hx hb hrt hlocks (congrArg bI e_49) hP hD hS dX5_takesDigit_126
            · refine lv_iconst (v := nI 1) hx hb dX5_takesDigit_80 (by decide) ?_
              refine lv_goto (tgt := 85) hx hb dX5_takesDigit_81 (by decide) ?_
              refine lv_istore (lv' := [(4, .int (nI 1)), (3, .int (bI (wthn (((nI 10) * nu) + d0) (nI 0) (nI 999)))), (2, .int (((nI 10) * nu) + d0)), (0, .ref (a 0)), (1, .int d0)]) hx hb dX5_takesDigit_85 hl (by decide) rfl (fun ls hl => ?_)
              refine lv_aload_n hx hb dX5_takesDigit_87 rfl (lv_at hl 3 rfl) ?_
              refine lv_iload hx hb dX5_takesDigit_88 (lv_at hl 0 rfl) ?_
              refine kx_if_eq (tgt := 97) hx hb (by omega) dX5_takesDigit_90 (by decide) (fun c => absurd c (by omega)) (fun c_90_53 => ?_)
              refine lv_iload_n hx hb dX5_takesDigit_93 rfl (lv_at hl 2 rfl) ?_
              refine lv_goto (tgt := 101) hx hb dX5_takesDigit_94 (by decide) ?_
              refine va_put (D := D) (ci := 5) (v := .int (((nI 10) * nu) + d0)) (ty := .int) (C := RX5) (T := TX5) (N := 12) hx hb hts iX5_takesDigit_5 tyX5 tyX5_ok nmX5 hown hK hP hD hS 0 rfl rfl 8 (by decide) (hts (.fieldLink RX5 134 "HallSightsModel" "number" "I") (List.mem_of_getElem? (i := 1) rfl)) (fun _ h9 => h9) rfl (by decide +kernel) rfl rfl (Nat.le_of_ble_eq_true rfl) dX5_takesDigit_101 (fun H locs hP hD hS => ?_)
              have hP : va_P D vwCl (MW a cI z (nI ns) zh (nI nl) tx th pa (nI nrd) (((nI 10) * nu) + d0) (nI npt) wy za) H := hP
              have hD : va_D (kA w0) (MW a cI z (nI ns) zh (nI nl) tx th pa (nI nrd) (((nI 10) * nu) + d0) (nI npt) wy za) := hD
              refine lv_aload_n hx hb dX5_takesDigit_104 rfl (lv_at hl 3 rfl) ?_
              refine va_get (D := D) (ci := 5) (v := .ref (a 4)) (C := RX5) (T := TX5) (N := 12) hx hb hts iX5_takesDigit_5 hown hK hP 0 rfl rfl 6 (by decide) (hts (.fieldLink RX5 19 "HallSightsModel" "parts" "[I") (List.mem_of_getElem? (i := 3) rfl)) (fun _ h9 => h9) rfl dX5_takesDigit_105 ?_
              refine lv_iconst (v := nI 3) hx hb dX5_takesDigit_108 (by decide) ?_
              refine lv_aload_n hx hb dX5_takesDigit_109 rfl (lv_at hl 3 rfl) ?_
              refine va_get (D := D) (ci := 5) (v := .int (nI nrd)) (C := RX5) (T := TX5) (N := 12) hx hb hts iX5_takesDigit_5 hown hK hP 0 rfl rfl 7 (by decide) (hts (.fieldLink RX5 140 "HallSightsModel" "read" "I") (List.mem_of_getElem? (i := 4) rfl)) (fun _ h9 => h9) rfl dX5_takesDigit_110 ?_
              refine kx_imul hx hb dX5_takesDigit_113 ?_
              refine lv_aload_n hx hb dX5_takesDigit_114 rfl (lv_at hl 3 rfl) ?_
              refine va_get (D := D) (ci := 5) (v := .int (nI npt)) (C := RX5) (T := TX5) (N := 12) hx hb hts iX5_takesDigit_5 hown hK hP 0 rfl rfl 9 (by decide) (hts (.fieldLink RX5 137 "HallSightsModel" "part" "I") (List.mem_of_getElem? (i := 2) rfl)) (fun _ h9 => h9) rfl dX5_takesDigit_115 ?_
              refine kx_iadd hx hb dX5_takesDigit_118 ?_
              refine lv_aload_n hx hb dX5_takesDigit_119 rfl (lv_at hl 3 rfl) ?_
              refine va_get (D := D) (ci := 5) (v := .int (((nI 10) * nu) + d0)) (C := RX5) (T := TX5) (N := 12) hx hb hts iX5_takesDigit_5 hown hK hP 0 rfl rfl 8 (by decide) (hts (.fieldLink RX5 134 "HallSightsModel" "number" "I") (List.mem_of_getElem? (i := 1) rfl)) (fun _ h9 => h9) rfl dX5_takesDigit_120 ?_
              refine kx_iast hx hb hK hP hD hS 4 0 rfl rfl (by omega) (by decide) dX5_takesDigit_123 (fun H locs hP hD hS => ?_)
              have hP : va_P D vwCl (MW a cI z (nI ns) zh (nI nl) tx th (upd pa ((3 * nrd) + npt) (((nI 10) * nu) + d0)) (nI nrd) (((nI 10) * nu) + d0) (nI npt) wy za) H := hP
              have hD : va_D (kA w0) (MW a cI z (nI ns) zh (nI nl) tx th (upd pa ((3 * nrd) + npt) (((nI 10) * nu) + d0)) (nI nrd) (((nI 10) * nu) + d0) (nI npt) wy za) := hD
              refine lv_iload hx hb dX5_takesDigit_124 (lv_at hl 0 rfl) ?_
              have e_54 : (true : Bool) = (tdB nu npt d0) := by first | rfl | omega | (simp [tdB, tdNu, tdV, tdR, Int32.not_lt, Int32.not_le, c_5_0, c_26_2, Nat.ne_of_gt c_26_2, c_41_5, c_66_33, c_73_40, c_77_47]; done) | (simp [tdB, tdNu, tdV, tdR, Int32.not_lt, Int32.not_le, c_5_0, c_26_2, Nat.ne_of_gt c_26_2, c_41_5, c_66_33, c_73_40, c_77_47]; omega) | (revert c_5_0 c_26_2 c_41_5 c_66_33 c_73_40 c_77_47; simp +contextual [tdB, tdNu, tdV, tdR, Int32.not_lt, Int32.not_le]; done) | (revert c_5_0 c_26_2 c_41_5 c_66_33 c_73_40 c_77_47; simp +contextual [tdB, tdNu, tdV, tdR, Int32.not_lt, Int32.not_le]; omega)
              have ec_pa_55 : ((upd pa ((3 * nrd) + npt) (((nI 10) * nu) + d0)) : ZZ) = (upd pa (3 * nrd + npt) (tdNu nu npt d0)) := by first | rfl | omega | (simp [tdB, tdNu, tdV, tdR, Int32.not_lt, Int32.not_le, c_5_0, c_26_2, Nat.ne_of_gt c_26_2, c_41_5, c_66_33, c_73_40, c_77_47]; done) | (simp [tdB, tdNu, tdV, tdR, Int32.not_lt, Int32.not_le, c_5_0, c_26_2, Nat.ne_of_gt c_26_2, c_41_5, c_66_33, c_73_40, c_77_47]; omega) | (revert c_5_0 c_26_2 c_41_5 c_66_33 c_73_40 c_77_47; simp +contextual [tdB, tdNu, tdV, tdR, Int32.not_lt, Int32.not_le]; done) | (revert c_5_0 c_26_2 c_41_5 c_66_33 c_73_40 c_77_47; simp +contextual [tdB, tdNu, tdV, tdR, Int32.not_lt, Int32.not_le]; omega)
              have ec_nu_56 : ((((nI 10) * nu) + d0) : Int32) = (tdNu nu npt d0) := by first | rfl | omega | (simp [tdB, tdNu, tdV, tdR, Int32.not_lt, Int32.not_le, c_5_0, c_26_2, Nat.ne_of_gt c_26_2, c_41_5, c_66_33, c_73_40, c_77_47]; done) | (simp [tdB, tdNu, tdV, tdR, Int32.not_lt, Int32.not_le, c_5_0, c_26_2, Nat.ne_of_gt c_26_2, c_41_5, c_66_33, c_73_40, c_77_47]; omega) | (revert c_5_0 c_26_2 c_41_5 c_66_33 c_73_40 c_77_47; simp +contextual [tdB, tdNu, tdV, tdR, Int32.not_lt, Int32.not_le]; done) | (revert c_5_0 c_26_2 c_41_5 c_66_33 c_73_40 c_77_47; simp +contextual [tdB, tdNu, tdV, tdR, Int32.not_lt, Int32.not_le]; omega)
              have ew_57 : (MW a cI z (nI ns) zh (nI nl) tx th (upd pa ((3 * nrd) + npt) (((nI 10) * nu) + d0)) (nI nrd) (((nI 10) * nu) + d0) (nI npt) wy za : va_W) = (MW a cI z (nI ns) zh (nI nl) tx th (upd pa (3 * nrd + npt) (tdNu nu npt d0)) (nI nrd) (tdNu nu npt d0) (nI npt) wy za) := mw_c rfl rfl rfl rfl rfl rfl ec_pa_55 rfl ec_nu_56 rfl rfl rfl
              rw [ew_57] at hP hD
              subst hw0
              exact kq_zret hx hb hrt hlocks (congrArg bI e_54) hP hD hS dX5_takesDigit_126
    · refine lv_iload_n hx hb dX5_takesDigit_29 rfl (lv_at hl 0 rfl) ?_
      refine kr_S (As := [.int (((nI 10) * nu) + d0)]) (rest := []) (own := RX5) ⟨hx, hb, hml, hown, hts⟩ (c_X5_isFar l D cI cC cH cL  (((nI 10) * nu) + d0) ) (va_cwS 1 hts gX5_takesDigit_X5_isFar rfl rfl rfl k_X5_isFarS ⟨Nat.le_of_ble_eq_true rfl, Nat.le_of_ble_eq_true rfl⟩) (hP.sub (ws' := []) [] rfl) hK rfl hl.1 rfl (Nat.le_of_ble_eq_true rfl) dX5_takesDigit_30 ⟨Nat.le_of_ble_eq_true rfl, Nat.le_of_ble_eq_true rfl⟩ ?_
      refine lv_goto (tgt := 58) hx hb dX5_takesDigit_33 (by decide) ?_
      refine lv_istore_n (lv' := [(3, .int (bI (wthn (((nI 10) * nu) + d0) (nI 1) (nI 999)))), (2, .int (((nI 10) * nu) + d0)), (0, .ref (a 0)), (1, .int d0)]) hx hb dX5_takesDigit_58 rfl hl (by decide) rfl (fun ls hl => ?_)
      refine lv_iload_n hx hb dX5_takesDigit_59 rfl (lv_at hl 3 rfl) ?_
      refine lv_iconst (v := nI 0) hx hb dX5_takesDigit_60 (by decide) ?_
      refine lv_bipush (v := nI 9) hx hb dX5_takesDigit_61 (by decide) ?_
      refine kr_S (As := [.int d0, .int (nI 0), .int (nI 9)]) (rest := []) (own := RX5) ⟨hx, hb, hml, hown, hts⟩ (c_X5_within l D cI cC cH cL  d0 (nI 0) (nI 9) ) (va_cwS 3 hts gX5_takesDigit_X5_within rfl rfl rfl k_X5_withinS ⟨Nat.le_of_ble_eq_true rfl, Nat.le_of_ble_eq_true rfl⟩) (hP.sub (ws' := []) [] rfl) hK rfl hl.1 rfl (Nat.le_of_ble_eq_true rfl) dX5_takesDigit_63 ⟨Nat.le_of_ble_eq_true rfl, Nat.le_of_ble_eq_true rfl⟩ ?_
      refine kx_if_eqb (tgt := 84) hx hb dX5_takesDigit_66 (by decide) (fun c_66_58 => ?_) (fun c_66_59 => ?_)
      · refine lv_iconst (v := nI 0) hx hb dX5_takesDigit_84 (by decide) ?_
        refine lv_istore (lv' := [(4, .int (nI 0)), (3, .int (bI (wthn (((nI 10) * nu) + d0) (nI 1) (nI 999)))), (2, .int (((nI 10) * nu) + d0)), (0, .ref (a 0)), (1, .int d0)]) hx hb dX5_takesDigit_85 hl (by decide) rfl (fun ls hl => ?_)
        refine lv_aload_n hx hb dX5_takesDigit_87 rfl (lv_at hl 3 rfl) ?_
        refine lv_iload hx hb dX5_takesDigit_88 (lv_at hl 0 rfl) ?_
        refine kx_if_eq (tgt := 97) hx hb (by omega) dX5_takesDigit_90 (by decide) (fun c_90_60 => ?_) (fun c => absurd c (by omega))
        refine lv_aload_n hx hb dX5_takesDigit_97 rfl (lv_at hl 3 rfl) ?_
        refine va_get (D := D) (ci := 5) (v := .int nu) (C := RX5) (T := TX5) (N := 12) hx hb hts iX5_takesDigit_5 hown hK hP 0 rfl rfl 8 (by decide) (hts (.fieldLink RX5 134 "HallSightsModel" "number" "I") (List.mem_of_getElem? (i := 1) rfl)) (fun _ h9 => h9) rfl dX5_takesDigit_98 ?_
        refine va_put (D := D) (ci := 5) (v := .int nu) (ty := .int) (C := RX5) (T := TX5) (N := 12) hx hb hts iX5_takesDigit_5 tyX5 tyX5_ok nmX5 hown hK hP hD hS 0 rfl rfl 8 (by decide) (hts (.fieldLink RX5 134 "HallSightsModel" "number" "I") (List.mem_of_getElem? (i := 1) rfl)) (fun _ h9 => h9) rfl (by decide +kernel) rfl rfl (Nat.le_of_ble_eq_true rfl) dX5_takesDigit_101 (fun H locs hP hD hS => ?_)
        have hP : va_P D vwCl (MW a cI z (nI ns) zh (nI nl) tx th pa (nI nrd) nu (nI npt) wy za) H := hP
        have hD : va_D (kA w0) (MW a cI z (nI ns) zh (nI nl) tx th pa (nI nrd) nu (nI npt) wy za) := hD
        refine lv_aload_n hx hb dX5_takesDigit_104 rfl (lv_at hl 3 rfl) ?_
        refine va_get (D := D) (ci := 5) (v := .ref (a 4)) (C := RX5) (T := TX5) (N := 12) hx hb hts iX5_takesDigit_5 hown hK hP 0 rfl rfl 6 (by decide) (hts (.fieldLink RX5 19 "HallSightsModel" "parts" "[I") (List.mem_of_getElem? (i := 3) rfl)) (fun _ h9 => h9) rfl dX5_takesDigit_105 ?_
        refine lv_iconst (v := nI 3) hx hb dX5_takesDigit_108 (by decide) ?_
        refine lv_aload_n hx hb dX5_takesDigit_109 rfl (lv_at hl 3 rfl) ?_
        refine va_get (D := D) (ci := 5) (v := .int (nI nrd)) (C := RX5) (T := TX5) (N := 12) hx hb hts iX5_takesDigit_5 hown hK hP 0 rfl rfl 7 (by decide) (hts (.fieldLink RX5 140 "HallSightsModel" "read" "I") (List.mem_of_getElem? (i := 4) rfl)) (fun _ h9 => h9) rfl dX5_takesDigit_110 ?_
        refine kx_imul hx hb dX5_takesDigit_113 ?_
        refine lv_aload_n hx hb dX5_takesDigit_114 rfl (lv_at hl 3 rfl) ?_
        refine va_get (D := D) (ci := 5) (v := .int (nI npt)) (C := RX5) (T := TX5) (N := 12) hx hb hts iX5_takesDigit_5 hown hK hP 0 rfl rfl 9 (by decide) (hts (.fieldLink RX5 137 "HallSightsModel" "part" "I") (List.mem_of_getElem? (i := 2) rfl)) (fun _ h9 => h9) rfl dX5_takesDigit_115 ?_
        refine kx_iadd hx hb dX5_takesDigit_118 ?_
        refine lv_aload_n hx hb dX5_takesDigit_119 rfl (lv_at hl 3 rfl) ?_
        refine va_get (D := D) (ci := 5) (v := .int nu) (C := RX5) (T := TX5) (N := 12) hx hb hts iX5_takesDigit_5 hown hK hP 0 rfl rfl 8 (by decide) (hts (.fieldLink RX5 134 "HallSightsModel" "number" "I") (List.mem_of_getElem? (i := 1) rfl)) (fun _ h9 => h9) rfl dX5_takesDigit_120 ?_
        refine kx_iast hx hb hK hP hD hS 4 0 rfl rfl (by omega) (by decide) dX5_takesDigit_123 (fun H locs hP hD hS => ?_)
        have hP : va_P D vwCl (MW a cI z (nI ns) zh (nI nl) tx th (upd pa ((3 * nrd) + npt) nu) (nI nrd) nu (nI npt) wy za) H := hP
        have hD : va_D (kA w0) (MW a cI z (nI ns) zh (nI nl) tx th (upd pa ((3 * nrd) + npt) nu) (nI nrd) nu (nI npt) wy za) := hD
        refine lv_iload hx hb dX5_takesDigit_124 (lv_at hl 0 rfl) ?_
        have e_61 : (false : Bool) = (tdB nu npt d0) := by first | rfl | omega | (simp [tdB, tdNu, tdV, tdR, Int32.not_lt, Int32.not_le, c_5_0, c_26_3, c_66_58]; done) | (simp [tdB, tdNu, tdV, tdR, Int32.not_lt, Int32.not_le, c_5_0, c_26_3, c_66_58]; omega) | (revert c_5_0 c_26_3 c_66_58; simp +contextual [tdB, tdNu, tdV, tdR, Int32.not_lt, Int32.not_le]; done) | (revert c_5_0 c_26_3 c_66_58; simp +contextual [tdB, tdNu, tdV, tdR, Int32.not_lt, Int32.not_le]; omega)
        have ec_pa_62 : ((upd pa ((3 * nrd) + npt) nu) : ZZ) = (upd pa (3 * nrd + npt) (tdNu nu npt d0)) := by first | rfl | omega | (simp [tdB, tdNu, tdV, tdR, Int32.not_lt, Int32.not_le, c_5_0, c_26_3, c_66_58]; done) | (simp [tdB, tdNu, tdV, tdR, Int32.not_lt, Int32.not_le, c_5_0, c_26_3, c_66_58]; omega) | (revert c_5_0 c_26_3 c_66_58; simp +contextual [tdB, tdNu, tdV, tdR, Int32.not_lt, Int32.not_le]; done) | (revert c_5_0 c_26_3 c_66_58; simp +contextual [tdB, tdNu, tdV, tdR, Int32.not_lt, Int32.not_le]; omega)
        have ec_nu_63 : (nu : Int32) = (tdNu nu npt d0) := by first | rfl | omega | (simp [tdB, tdNu, tdV, tdR, Int32.not_lt, Int32.not_le, c_5_0, c_26_3, c_66_58]; done) | (simp [tdB, tdNu, tdV, tdR, Int32.not_lt, Int32.not_le, c_5_0, c_26_3, c_66_58]; omega) | (revert c_5_0 c_26_3 c_66_58; simp +contextual [tdB, tdNu, tdV, tdR, Int32.not_lt, Int32.not_le]; done) | (revert c_5_0 c_26_3 c_66_58; simp +contextual [tdB, tdNu, tdV, tdR, Int32.not_lt, Int32.not_le]; omega)
        have ew_64 : (MW a cI z (nI ns) zh (nI nl) tx th (upd pa ((3 * nrd) + npt) nu) (nI nrd) nu (nI npt) wy za : va_W) = (MW a cI z (nI ns) zh (nI nl) tx th (upd pa (3 * nrd + npt) (tdNu nu npt d0)) (nI nrd) (tdNu nu npt d0) (nI npt) wy za) := mw_c rfl rfl rfl rfl rfl rfl ec_pa_62 rfl ec_nu_63 rfl rfl rfl
        rw [ew_64] at hP hD
        subst hw0
        exact kq_zret hx hb hrt hlocks (congrArg bI e_61) hP hD hS dX5_takesDigit_126
      · refine lv_aload_n hx hb dX5_takesDigit_69 rfl (lv_at hl 2 rfl) ?_
        refine va_get (D := D) (ci := 5) (v := .int nu) (C := RX5) (T := TX5) (N := 12) hx hb hts iX5_takesDigit_5 hown hK hP 0 rfl rfl 8 (by decide) (hts (.fieldLink RX5 134 "HallSightsModel" "number" "I") (List.mem_of_getElem? (i := 1) rfl)) (fun _ h9 => h9) rfl dX5_takesDigit_70 ?_
        refine lv_if_eq (tgt := 84) hx hb dX5_takesDigit_73 (by decide) (fun c_73_65 => ?_) (fun c_73_66 => ?_)
        · have c_73_65 : (nu : Int32) = 0 := c_73_65
          refine lv_iconst (v := nI 0) hx hb dX5_takesDigit_84 (by decide) ?_
          refine lv_istore (lv' := [(4, .int (nI 0)), (3, .int (bI (wthn (((nI 10) * nu) + d0) (nI 1) (nI 999)))), (2, .int (((nI 10) * nu) + d0)), (0, .ref (a 0)), (1, .int d0)]) hx hb dX5_takesDigit_85 hl (by decide) rfl (fun ls hl => ?_)
          refine lv_aload_n hx hb dX5_takesDigit_87 rfl (lv_at hl 3 rfl) ?_
          refine lv_iload hx hb dX5_takesDigit_88 (lv_at hl 0 rfl) ?_
          refine kx_if_eq (tgt := 97) hx hb (by omega) dX5_takesDigit_90 (by decide) (fun c_90_67 => ?_) (fun c => absurd c (by omega))
          refine lv_aload_n hx hb dX5_takesDigit_97 rfl (lv_at hl 3 rfl) ?_
          refine va_get (D := D) (ci := 5) (v := .int nu) (C := RX5) (T := TX5) (N := 12) hx hb hts iX5_takesDigit_5 hown hK hP 0 rfl rfl 8 (by decide) (hts (.fieldLink RX5 134 "HallSightsModel" "number" "I") (List.mem_of_getElem? (i := 1) rfl)) (fun _ h9 => h9) rfl dX5_takesDigit_98 ?_
          refine va_put (D := D) (ci := 5) (v := .int nu) (ty := .int) (C := RX5) (T := TX5) (N := 12) hx hb hts iX5_takesDigit_5 tyX5 tyX5_ok nmX5 hown hK hP hD hS 0 rfl rfl 8 (by decide) (hts (.fieldLink RX5 134 "HallSightsModel" "number" "I") (List.mem_of_getElem? (i := 1) rfl)) (fun _ h9 => h9) rfl (by decide +kernel) rfl rfl (Nat.le_of_ble_eq_true rfl) dX5_takesDigit_101 (fun H locs hP hD hS => ?_)
          have hP : va_P D vwCl (MW a cI z (nI ns) zh (nI nl) tx th pa (nI nrd) nu (nI npt) wy za) H := hP
          have hD : va_D (kA w0) (MW a cI z (nI ns) zh (nI nl) tx th pa (nI nrd) nu (nI npt) wy za) := hD
          refine lv_aload_n hx hb dX5_takesDigit_104 rfl (lv_at hl 3 rfl) ?_
          refine va_get (D := D) (ci := 5) (v := .ref (a 4)) (C := RX5) (T := TX5) (N := 12) hx hb hts iX5_takesDigit_5 hown hK hP 0 rfl rfl 6 (by decide) (hts (.fieldLink RX5 19 "HallSightsModel" "parts" "[I") (List.mem_of_getElem? (i := 3) rfl)) (fun _ h9 => h9) rfl dX5_takesDigit_105 ?_
          refine lv_iconst (v := nI 3) hx hb dX5_takesDigit_108 (by decide) ?_
          refine lv_aload_n hx hb dX5_takesDigit_109 rfl (lv_at hl 3 rfl) ?_
          refine va_get (D := D) (ci := 5) (v := .int (nI nrd)) (C := RX5) (T := TX5) (N := 12) hx hb hts iX5_takesDigit_5 hown hK hP 0 rfl rfl 7 (by decide) (hts (.fieldLink RX5 140 "HallSightsModel" "read" "I") (List.mem_of_getElem? (i := 4) rfl)) (fun _ h9 => h9) rfl dX5_takesDigit_110 ?_
          refine kx_imul hx hb dX5_takesDigit_113 ?_
          refine lv_aload_n hx hb dX5_takesDigit_114 rfl (lv_at hl 3 rfl) ?_
          refine va_get (D := D) (ci := 5) (v := .int (nI npt)) (C := RX5) (T := TX5) (N := 12) hx hb hts iX5_takesDigit_5 hown hK hP 0 rfl rfl 9 (by decide) (hts (.fieldLink RX5 137 "HallSightsModel" "part" "I") (List.mem_of_getElem? (i := 2) rfl)) (fun _ h9 => h9) rfl dX5_takesDigit_115 ?_
          refine kx_iadd hx hb dX5_takesDigit_118 ?_
          refine lv_aload_n hx hb dX5_takesDigit_119 rfl (lv_at hl 3 rfl) ?_
          refine va_get (D := D) (ci := 5) (v := .int nu) (C := RX5) (T := TX5) (N := 12) hx hb hts iX5_takesDigit_5 hown hK hP 0 rfl rfl 8 (by decide) (hts (.fieldLink RX5 134 "HallSightsModel" "number" "I") (List.mem_of_getElem? (i := 1) rfl)) (fun _ h9 => h9) rfl dX5_takesDigit_120 ?_
          refine kx_iast hx hb hK hP hD hS 4 0 rfl rfl (by omega) (by decide) dX5_takesDigit_123 (fun H locs hP hD hS => ?_)
          have hP : va_P D vwCl (MW a cI z (nI ns) zh (nI nl) tx th (upd pa ((3 * nrd) + npt) nu) (nI nrd) nu (nI npt) wy za) H := hP
          have hD : va_D (kA w0) (MW a cI z (nI ns) zh (nI nl) tx th (upd pa ((3 * nrd) + npt) nu) (nI nrd) nu (nI npt) wy za) := hD
          refine lv_iload hx hb dX5_takesDigit_124 (lv_at hl 0 rfl) ?_
          have e_68 : (false : Bool) = (tdB nu npt d0) := by first | rfl | omega | (simp [tdB, tdNu, tdV, tdR, Int32.not_lt, Int32.not_le, c_5_0, c_26_3, c_66_59, c_73_65]; done) | (simp [tdB, tdNu, tdV, tdR, Int32.not_lt, Int32.not_le, c_5_0, c_26_3, c_66_59, c_73_65]; omega) | (revert c_5_0 c_26_3 c_66_59 c_73_65; simp +contextual [tdB, tdNu, tdV, tdR, Int32.not_lt, Int32.not_le]; done) | (revert c_5_0 c_26_3 c_66_59 c_73_65; simp +contextual [tdB, tdNu, tdV, tdR, Int32.not_lt, Int32.not_le]; omega)
          have ec_pa_69 : ((upd pa ((3 * nrd) + npt) nu) : ZZ) = (upd pa (3 * nrd + npt) (tdNu nu npt d0)) := by first | rfl | omega | (simp [tdB, tdNu, tdV, tdR, Int32.not_lt, Int32.not_le, c_5_0, c_26_3, c_66_59, c_73_65]; done) | (simp [tdB, tdNu, tdV, tdR, Int32.not_lt, Int32.not_le, c_5_0, c_26_3, c_66_59, c_73_65]; omega) | (revert c_5_0 c_26_3 c_66_59 c_73_65; simp +contextual [tdB, tdNu, tdV, tdR, Int32.not_lt, Int32.not_le]; done) | (revert c_5_0 c_26_3 c_66_59 c_73_65; simp +contextual [tdB, tdNu, tdV, tdR, Int32.not_lt, Int32.not_le]; omega)
          have ec_nu_70 : (nu : Int32) = (tdNu nu npt d0) := by first | rfl | omega | (simp [tdB, tdNu, tdV, tdR, Int32.not_lt, Int32.not_le, c_5_0, c_26_3, c_66_59, c_73_65]; done) | (simp [tdB, tdNu, tdV, tdR, Int32.not_lt, Int32.not_le, c_5_0, c_26_3, c_66_59, c_73_65]; omega) | (revert c_5_0 c_26_3 c_66_59 c_73_65; simp +contextual [tdB, tdNu, tdV, tdR, Int32.not_lt, Int32.not_le]; done) | (revert c_5_0 c_26_3 c_66_59 c_73_65; simp +contextual [tdB, tdNu, tdV, tdR, Int32.not_lt, Int32.not_le]; omega)
          have ew_71 : (MW a cI z (nI ns) zh (nI nl) tx th (upd pa ((3 * nrd) + npt) nu) (nI nrd) nu (nI npt) wy za : va_W) = (MW a cI z (nI ns) zh (nI nl) tx th (upd pa (3 * nrd + npt) (tdNu nu npt d0)) (nI nrd) (tdNu nu npt d0) (nI npt) wy za) := mw_c rfl rfl rfl rfl rfl rfl ec_pa_69 rfl ec_nu_70 rfl rfl rfl
          rw [ew_71] at hP hD
          subst hw0
          exact kq_zret hx hb hrt hlocks (congrArg bI e_68) hP hD hS dX5_takesDigit_126
        · have c_73_66 : ¬ (nu : Int32) = 0 := c_73_66
          refine lv_iload_n hx hb dX5_takesDigit_76 rfl (lv_at hl 0 rfl) ?_
          refine kx_if_eqb (tgt := 84) hx hb dX5_takesDigit_77 (by decide) (fun c_77_72 => ?_) (fun c_77_73 => ?_)
          · refine lv_iconst (v := nI 0) hx hb dX5_takesDigit_84 (by decide) ?_
            refine lv_istore (lv' := [(4, .int (nI 0)), (3, .int (bI (wthn (((nI 10) * nu) + d0) (nI 1) (nI 999)))), (2, .int (((nI 10) * nu) + d0)), (0, .ref (a 0)), (1, .int d0)]) hx hb dX5_takesDigit_85 hl (by decide) rfl (fun ls hl => ?_)
            refine lv_aload_n hx hb dX5_takesDigit_87 rfl (lv_at hl 3 rfl) ?_
            refine lv_iload hx hb dX5_takesDigit_88 (lv_at hl 0 rfl) ?_
            refine kx_if_eq (tgt := 97) hx hb (by omega) dX5_takesDigit_90 (by decide) (fun c_90_74 => ?_) (fun c => absurd c (by omega))
            refine lv_aload_n hx hb dX5_takesDigit_97 rfl (lv_at hl 3 rfl) ?_
            refine va_get (D := D) (ci := 5) (v := .int nu) (C := RX5) (T := TX5) (N := 12) hx hb hts iX5_takesDigit_5 hown hK hP 0 rfl rfl 8 (by decide) (hts (.fieldLink RX5 134 "HallSightsModel" "number" "I") (List.mem_of_getElem? (i := 1) rfl)) (fun _ h9 => h9) rfl dX5_takesDigit_98 ?_
            refine va_put (D := D) (ci := 5) (v := .int nu) (ty := .int) (C := RX5) (T := TX5) (N := 12) hx hb hts iX5_takesDigit_5 tyX5 tyX5_ok nmX5 hown hK hP hD hS 0 rfl rfl 8 (by decide) (hts (.fieldLink RX5 134 "HallSightsModel" "number" "I") (List.mem_of_getElem? (i := 1) rfl)) (fun _ h9 => h9) rfl (by decide +kernel) rfl rfl (Nat.le_of_ble_eq_true rfl) dX5_takesDigit_101 (fun H locs hP hD hS => ?_)
            have hP : va_P D vwCl (MW a cI z (nI ns) zh (nI nl) tx th pa (nI nrd) nu (nI npt) wy za) H := hP
            have hD : va_D (kA w0) (MW a cI z (nI ns) zh (nI nl) tx th pa (nI nrd) nu (nI npt) wy za) := hD
            refine lv_aload_n hx hb dX5_takesDigit_104 rfl (lv_at hl 3 rfl) ?_
            refine va_get (D := D) (ci := 5) (v := .ref (a 4)) (C := RX5) (T := TX5) (N := 12) hx hb hts iX5_takesDigit_5 hown hK hP 0 rfl rfl 6 (by decide) (hts (.fieldLink RX5 19 "HallSightsModel" "parts" "[I") (List.mem_of_getElem? (i := 3) rfl)) (fun _ h9 => h9) rfl dX5_takesDigit_105 ?_
            refine lv_iconst (v := nI 3) hx hb dX5_takesDigit_108 (by decide) ?_
            refine lv_aload_n hx hb dX5_takesDigit_109 rfl (lv_at hl 3 rfl) ?_
            refine va_get (D := D) (ci := 5) (v := .int (nI nrd)) (C := RX5) (T := TX5) (N := 12) hx hb hts iX5_takesDigit_5 hown hK hP 0 rfl rfl 7 (by decide) (hts (.fieldLink RX5 140 "HallSightsModel" "read" "I") (List.mem_of_getElem? (i := 4) rfl)) (fun _ h9 => h9) rfl dX5_takesDigit_110 ?_
            refine kx_imul hx hb dX5_takesDigit_113 ?_
            refine lv_aload_n hx hb dX5_takesDigit_114 rfl (lv_at hl 3 rfl) ?_
            refine va_get (D := D) (ci := 5) (v := .int (nI npt)) (C := RX5) (T := TX5) (N := 12) hx hb hts iX5_takesDigit_5 hown hK hP 0 rfl rfl 9 (by decide) (hts (.fieldLink RX5 137 "HallSightsModel" "part" "I") (List.mem_of_getElem? (i := 2) rfl)) (fun _ h9 => h9) rfl dX5_takesDigit_115 ?_
            refine kx_iadd hx hb dX5_takesDigit_118 ?_
            refine lv_aload_n hx hb dX5_takesDigit_119 rfl (lv_at hl 3 rfl) ?_
            refine va_get (D := D) (ci := 5) (v := .int nu) (C := RX5) (T := TX5) (N := 12) hx hb hts iX5_takesDigit_5 hown hK hP 0 rfl rfl 8 (by decide) (hts (.fieldLink RX5 134 "HallSightsModel" "number" "I") (List.mem_of_getElem? (i := 1) rfl)) (fun _ h9 => h9) rfl dX5_takesDigit_120 ?_
            refine kx_iast hx hb hK hP hD hS 4 0 rfl rfl (by omega) (by decide) dX5_takesDigit_123 (fun H locs hP hD hS => ?_)
            have hP : va_P D vwCl (MW a cI z (nI ns) zh (nI nl) tx th (upd pa ((3 * nrd) + npt) nu) (nI nrd) nu (nI npt) wy za) H := hP
            have hD : va_D (kA w0) (MW a cI z (nI ns) zh (nI nl) tx th (upd pa ((3 * nrd) + npt) nu) (nI nrd) nu (nI npt) wy za) := hD
            refine lv_iload hx hb dX5_takesDigit_124 (lv_at hl 0 rfl) ?_
            have e_75 : (false : Bool) = (tdB nu npt d0) := by first | rfl | omega | (simp [tdB, tdNu, tdV, tdR, Int32.not_lt, Int32.not_le, c_5_0, c_26_3, c_66_59, c_73_66, c_77_72]; done) | (simp [tdB, tdNu, tdV, tdR, Int32.not_lt, Int32.not_le, c_5_0, c_26_3, c_66_59, c_73_66, c_77_72]; omega) | (revert c_5_0 c_26_3 c_66_59 c_73_66 c_77_72; simp +contextual [tdB, tdNu, tdV, tdR, Int32.not_lt, Int32.not_le]; done) | (revert c_5_0 c_26_3 c_66_59 c_73_66 c_77_72; simp +contextual [tdB, tdNu, tdV, tdR, Int32.not_lt, Int32.not_le]; omega)
            have ec_pa_76 : ((upd pa ((3 * nrd) + npt) nu) : ZZ) = (upd pa (3 * nrd + npt) (tdNu nu npt d0)) := by first | rfl | omega | (simp [tdB, tdNu, tdV, tdR, Int32.not_lt, Int32.not_le, c_5_0, c_26_3, c_66_59, c_73_66, c_77_72]; done) | (simp [tdB, tdNu, tdV, tdR, Int32.not_lt, Int32.not_le, c_5_0, c_26_3, c_66_59, c_73_66, c_77_72]; omega) | (revert c_5_0 c_26_3 c_66_59 c_73_66 c_77_72; simp +contextual [tdB, tdNu, tdV, tdR, Int32.not_lt, Int32.not_le]; done) | (revert c_5_0 c_26_3 c_66_59 c_73_66 c_77_72; simp +contextual [tdB, tdNu, tdV, tdR, Int32.not_lt, Int32.not_le]; omega)
            have ec_nu_77 : (nu : Int32) = (tdNu nu npt d0) := by first | rfl | omega | (simp [tdB, tdNu, tdV, tdR, Int32.not_lt, Int32.not_le, c_5_0, c_26_3, c_66_59, c_73_66, c_77_72]; done) | (simp [tdB, tdNu, tdV, tdR, Int32.not_lt, Int32.not_le, c_5_0, c_26_3, c_66_59, c_73_66, c_77_72]; omega) | (revert c_5_0 c_26_3 c_66_59 c_73_66 c_77_72; simp +contextual [tdB, tdNu, tdV, tdR, Int32.not_lt, Int32.not_le]; done) | (revert c_5_0 c_26_3 c_66_59 c_73_66 c_77_72; simp +contextual [tdB, tdNu, tdV, tdR, Int32.not_lt, Int32.not_le]; omega)
            have ew_78 : (MW a cI z (nI ns) zh (nI nl) tx th (upd pa ((3 * nrd) + npt) nu) (nI nrd) nu (nI npt) wy za : va_W) = (MW a cI z (nI ns) zh (nI nl) tx th (upd pa (3 * nrd + npt) (tdNu nu npt d0)) (nI nrd) (tdNu nu npt d0) (nI npt) wy za) := mw_c rfl rfl rfl rfl rfl rfl ec_pa_76 rfl ec_nu_77 rfl rfl rfl
            rw [ew_78] at hP hD
            subst hw0
            exact kq_zret hx hb hrt hlocks (congrArg bI e_75) hP hD hS dX5_takesDigit_126
          · refine lv_iconst (v := nI 1) hx hb dX5_takesDigit_80 (by decide) ?_
            refine lv_goto (tgt := 85) hx hb dX5_takesDigit_81 (by decide) ?_
            refine lv_istore (lv' := [(4, .int (nI 1)), (3, .int (bI (wthn (((nI 10) * nu) + d0) (nI 1) (nI 999)))), (2, .int (((nI 10) * nu) + d0)), (0, .ref (a 0)), (1, .int d0)]) hx hb dX5_takesDigit_85 hl (by decide) rfl (fun ls hl => ?_)
            refine lv_aload_n hx hb dX5_takesDigit_87 rfl (lv_at hl 3 rfl) ?_
            refine lv_iload hx hb dX5_takesDigit_88 (lv_at hl 0 rfl) ?_
            refine kx_if_eq (tgt := 97) hx hb (by omega) dX5_takesDigit_90 (by decide) (fun c => absurd c (by omega)) (fun c_90_79 => ?_)
            refine lv_iload_n hx hb dX5_takesDigit_93 rfl (lv_at hl 2 rfl) ?_
            refine lv_goto (tgt := 101) hx hb dX5_takesDigit_94 (by decide) ?_
            refine va_put (D := D) (ci := 5) (v := .int (((nI 10) * nu) + d0)) (ty := .int) (C := RX5) (T := TX5) (N := 12) hx hb hts iX5_takesDigit_5 tyX5 tyX5_ok nmX5 hown hK hP hD hS 0 rfl rfl 8 (by decide) (hts (.fieldLink RX5 134 "HallSightsModel" "number" "I") (List.mem_of_getElem? (i := 1) rfl)) (fun _ h9 => h9) rfl (by decide +kernel) rfl rfl (Nat.le_of_ble_eq_true rfl) dX5_takesDigit_101 (fun H locs hP hD hS => ?_)
            have hP : va_P D vwCl (MW a cI z (nI ns) zh (nI nl) tx th pa (nI nrd) (((nI 10) * nu) + d0) (nI npt) wy za) H := hP
            have hD : va_D (kA w0) (MW a cI z (nI ns) zh (nI nl) tx th pa (nI nrd) (((nI 10) * nu) + d0) (nI npt) wy za) := hD
            refine lv_aload_n hx hb dX5_takesDigit_104 rfl (lv_at hl 3 rfl) ?_
            refine va_get (D := D) (ci := 5) (v := .ref (a 4)) (C := RX5) (T := TX5) (N := 12) hx hb hts iX5_takesDigit_5 hown hK hP 0 rfl rfl 6 (by decide) (hts (.fieldLink RX5 19 "HallSightsModel" "parts" "[I") (List.mem_of_getElem? (i := 3) rfl)) (fun _ h9 => h9) rfl dX5_takesDigit_105 ?_
            refine lv_iconst (v := nI 3) hx hb dX5_takesDigit_108 (by decide) ?_
            refine lv_aload_n hx hb dX5_takesDigit_109 rfl (lv_at hl 3 rfl) ?_
            refine va_get (D := D) (ci := 5) (v := .int (nI nrd)) (C := RX5) (T := TX5) (N := 12) hx hb hts iX5_takesDigit_5 hown hK hP 0 rfl rfl 7 (by decide) (hts (.fieldLink RX5 140 "HallSightsModel" "read" "I") (List.mem_of_getElem? (i := 4) rfl)) (fun _ h9 => h9) rfl dX5_takesDigit_110 ?_
            refine kx_imul hx hb dX5_takesDigit_113 ?_
            refine lv_aload_n hx hb dX5_takesDigit_114 rfl (lv_at hl 3 rfl) ?_
            refine va_get (D := D) (ci := 5) (v := .int (nI npt)) (C := RX5) (T := TX5) (N := 12) hx hb hts iX5_takesDigit_5 hown hK hP 0 rfl rfl 9 (by decide) (hts (.fieldLink RX5 137 "HallSightsModel" "part" "I") (List.mem_of_getElem? (i := 2) rfl)) (fun _ h9 => h9) rfl dX5_takesDigit_115 ?_
            refine kx_iadd hx hb dX5_takesDigit_118 ?_
            refine lv_aload_n hx hb dX5_takesDigit_119 rfl (lv_at hl 3 rfl) ?_
            refine va_get (D := D) (ci := 5) (v := .int (((nI 10) * nu) + d0)) (C := RX5) (T := TX5) (N := 12) hx hb hts iX5_takesDigit_5 hown hK hP 0 rfl rfl 8 (by decide) (hts (.fieldLink RX5 134 "HallSightsModel" "number" "I") (List.mem_of_getElem? (i := 1) rfl)) (fun _ h9 => h9) rfl dX5_takesDigit_120 ?_
            refine kx_iast hx hb hK hP hD hS 4 0 rfl rfl (by omega) (by decide) dX5_takesDigit_123 (fun H locs hP hD hS => ?_)
            have hP : va_P D vwCl (MW a cI z (nI ns) zh (nI nl) tx th (upd pa ((3 * nrd) + npt) (((nI 10) * nu) + d0)) (nI nrd) (((nI 10) * nu) + d0) (nI npt) wy za) H := hP
            have hD : va_D (kA w0) (MW a cI z (nI ns) zh (nI nl) tx th (upd pa ((3 * nrd) + npt) (((nI 10) * nu) + d0)) (nI nrd) (((nI 10) * nu) + d0) (nI npt) wy za) := hD
            refine lv_iload hx hb dX5_takesDigit_124 (lv_at hl 0 rfl) ?_
            have e_80 : (true : Bool) = (tdB nu npt d0) := by first | rfl | omega | (simp [tdB, tdNu, tdV, tdR, Int32.not_lt, Int32.not_le, c_5_0, c_26_3, c_66_59, c_73_66, c_77_73]; done) | (simp [tdB, tdNu, tdV, tdR, Int32.not_lt, Int32.not_le, c_5_0, c_26_3, c_66_59, c_73_66, c_77_73]; omega) | (revert c_5_0 c_26_3 c_66_59 c_73_66 c_77_73; simp +contextual [tdB, tdNu, tdV, tdR, Int32.not_lt, Int32.not_le]; done) | (revert c_5_0 c_26_3 c_66_59 c_73_66 c_77_73; simp +contextual [tdB, tdNu, tdV, tdR, Int32.not_lt, Int32.not_le]; omega)
            have ec_pa_81 : ((upd pa ((3 * nrd) + npt) (((nI 10) * nu) + d0)) : ZZ) = (upd pa (3 * nrd + npt) (tdNu nu npt d0)) := by first | rfl | omega | (simp [tdB, tdNu, tdV, tdR, Int32.not_lt, Int32.not_le, c_5_0, c_26_3, c_66_59, c_73_66, c_77_73]; done) | (simp [tdB, tdNu, tdV, tdR, Int32.not_lt, Int32.not_le, c_5_0, c_26_3, c_66_59, c_73_66, c_77_73]; omega) | (revert c_5_0 c_26_3 c_66_59 c_73_66 c_77_73; simp +contextual [tdB, tdNu, tdV, tdR, Int32.not_lt, Int32.not_le]; done) | (revert c_5_0 c_26_3 c_66_59 c_73_66 c_77_73; simp +contextual [tdB, tdNu, tdV, tdR, Int32.not_lt, Int32.not_le]; omega)
            have ec_nu_82 : ((((nI 10) * nu) + d0) : Int32) = (tdNu nu npt d0) := by first | rfl | omega | (simp [tdB, tdNu, tdV, tdR, Int32.not_lt, Int32.not_le, c_5_0, c_26_3, c_66_59, c_73_66, c_77_73]; done) | (simp [tdB, tdNu, tdV, tdR, Int32.not_lt, Int32.not_le, c_5_0, c_26_3, c_66_59, c_73_66, c_77_73]; omega) | (revert c_5_0 c_26_3 c_66_59 c_73_66 c_77_73; simp +contextual [tdB, tdNu, tdV, tdR, Int32.not_lt, Int32.not_le]; done) | (revert c_5_0 c_26_3 c_66_59 c_73_66 c_77_73; simp +contextual [tdB, tdNu, tdV, tdR, Int32.not_lt, Int32.not_le]; omega)
            have ew_83 : (MW a cI z (nI ns) zh (nI nl) tx th (upd pa ((3 * nrd) + npt) (((nI 10) * nu) + d0)) (nI nrd) (((nI 10) * nu) + d0) (nI npt) wy za : va_W) = (MW a cI z (nI ns) zh (nI nl) tx th (upd pa (3 * nrd + npt) (tdNu nu npt d0)) (nI nrd) (tdNu nu npt d0) (nI npt) wy za) := mw_c rfl rfl rfl rfl rfl rfl ec_pa_81 rfl ec_nu_82 rfl rfl rfl
            rw [ew_83] at hP hD
            subst hw0
            exact kq_zret hx hb hrt hlocks (congrArg bI e_80) hP hD hS dX5_takesDigit_126
  · have c_5_1 : (nu : Int32) = (-1) := c_5_1
    refine lv_iload_n hx hb dX5_takesDigit_8 rfl (lv_at hl 1 rfl) ?_
    refine lv_goto (tgt := 21) hx hb dX5_takesDigit_9 (by decide) ?_
    refine lv_istore_n (lv' := [(2, .int d0), (0, .ref (a 0)), (1, .int d0)]) hx hb dX5_takesDigit_21 rfl hl (by decide) rfl (fun ls hl => ?_)
    refine lv_aload_n hx hb dX5_takesDigit_22 rfl (lv_at hl 1 rfl) ?_
    refine va_get (D := D) (ci := 5) (v := .int (nI npt)) (C := RX5) (T := TX5) (N := 12) hx hb hts iX5_takesDigit_5 hown hK hP 0 rfl rfl 9 (by decide) (hts (.fieldLink RX5 137 "HallSightsModel" "part" "I") (List.mem_of_getElem? (i := 2) rfl)) (fun _ h9 => h9) rfl dX5_takesDigit_23 ?_
    refine kx_if_ne (tgt := 36) hx hb (by omega) dX5_takesDigit_26 (by decide) (fun c_26_84 => ?_) (fun c_26_85 => ?_)
    · refine lv_aload_n hx hb dX5_takesDigit_36 rfl (lv_at hl 1 rfl) ?_
      refine va_get (D := D) (ci := 5) (v := .int (nI npt)) (C := RX5) (T := TX5) (N := 12) hx hb hts iX5_takesDigit_5 hown hK hP 0 rfl rfl 9 (by decide) (hts (.fieldLink RX5 137 "HallSightsModel" "part" "I") (List.mem_of_getElem? (i := 2) rfl)) (fun _ h9 => h9) rfl dX5_takesDigit_37 ?_
      refine lv_iconst (v := nI 1) hx hb dX5_takesDigit_40 (by decide) ?_
      refine kx_icmp_ne (tgt := 51) hx hb (by omega) (by omega) dX5_takesDigit_41 (by decide) (fun c_41_86 => ?_) (fun c_41_87 => ?_)
      · refine lv_iload_n hx hb dX5_takesDigit_51 rfl (lv_at hl 0 rfl) ?_
        refine lv_iconst (v := nI 1) hx hb dX5_takesDigit_52 (by decide) ?_
        refine lv_bipush (v := nI 12) hx hb dX5_takesDigit_53 (by decide) ?_
        refine kr_S (As := [.int d0, .int (nI 1), .int (nI 12)]) (rest := []) (own := RX5) ⟨hx, hb, hml, hown, hts⟩ (c_X5_within l D cI cC cH cL  d0 (nI 1) (nI 12) ) (va_cwS 3 hts gX5_takesDigit_X5_within rfl rfl rfl k_X5_withinS ⟨Nat.le_of_ble_eq_true rfl, Nat.le_of_ble_eq_true rfl⟩) (hP.sub (ws' := []) [] rfl) hK rfl hl.1 rfl (Nat.le_of_ble_eq_true rfl) dX5_takesDigit_55 ⟨Nat.le_of_ble_eq_true rfl, Nat.le_of_ble_eq_true rfl⟩ ?_
        refine lv_istore_n (lv' := [(3, .int (bI (wthn d0 (nI 1) (nI 12)))), (2, .int d0), (0, .ref (a 0)), (1, .int d0)]) hx hb dX5_takesDigit_58 rfl hl (by decide) rfl (fun ls hl => ?_)
        refine lv_iload_n hx hb dX5_takesDigit_59 rfl (lv_at hl 3 rfl) ?_
        refine lv_iconst (v := nI 0) hx hb dX5_takesDigit_60 (by decide) ?_
        refine lv_bipush (v := nI 9) hx hb dX5_takesDigit_61 (by decide) ?_
        refine kr_S (As := [.int d0, .int (nI 0), .int (nI 9)]) (rest := []) (own := RX5) ⟨hx, hb, hml, hown, hts⟩ (c_X5_within l D cI cC cH cL  d0 (nI 0) (nI 9) ) (va_cwS 3 hts gX5_takesDigit_X5_within rfl rfl rfl k_X5_withinS ⟨Nat.le_of_ble_eq_true rfl, Nat.le_of_ble_eq_true rfl⟩) (hP.sub (ws' := []) [] rfl) hK rfl hl.1 rfl (Nat.le_of_ble_eq_true rfl) dX5_takesDigit_63 ⟨Nat.le_of_ble_eq_true rfl, Nat.le_of_ble_eq_true rfl⟩ ?_
        refine kx_if_eqb (tgt := 84) hx hb dX5_takesDigit_66 (by decide) (fun c_66_88 => ?_) (fun c_66_89 => ?_)
        · refine lv_iconst (v := nI 0) hx hb dX5_takesDigit_84 (by decide) ?_
          refine lv_istore (lv' := [(4, .int (nI 0)), (3, .int (bI (wthn d0 (nI 1) (nI 12)))), (2, .int d0), (0, .ref (a 0)), (1, .int d0)]) hx hb dX5_takesDigit_85 hl (by decide) rfl (fun ls hl => ?_)
          refine lv_aload_n hx hb dX5_takesDigit_87 rfl (lv_at hl 3 rfl) ?_
          refine lv_iload hx hb dX5_takesDigit_88 (lv_at hl 0 rfl) ?_
          refine kx_if_eq (tgt := 97) hx hb (by omega) dX5_takesDigit_90 (by decide) (fun c_90_90 => ?_) (fun c => absurd c (by omega))
          refine lv_aload_n hx hb dX5_takesDigit_97 rfl (lv_at hl 3 rfl) ?_
          refine va_get (D := D) (ci := 5) (v := .int nu) (C := RX5) (T := TX5) (N := 12) hx hb hts iX5_takesDigit_5 hown hK hP 0 rfl rfl 8 (by decide) (hts (.fieldLink RX5 134 "HallSightsModel" "number" "I") (List.mem_of_getElem? (i := 1) rfl)) (fun _ h9 => h9) rfl dX5_takesDigit_98 ?_
          refine va_put (D := D) (ci := 5) (v := .int nu) (ty := .int) (C := RX5) (T := TX5) (N := 12) hx hb hts iX5_takesDigit_5 tyX5 tyX5_ok nmX5 hown hK hP hD hS 0 rfl rfl 8 (by decide) (hts (.fieldLink RX5 134 "HallSightsModel" "number" "I") (List.mem_of_getElem? (i := 1) rfl)) (fun _ h9 => h9) rfl (by decide +kernel) rfl rfl (Nat.le_of_ble_eq_true rfl) dX5_takesDigit_101 (fun H locs hP hD hS => ?_)
          have hP : va_P D vwCl (MW a cI z (nI ns) zh (nI nl) tx th pa (nI nrd) nu (nI npt) wy za) H := hP
          have hD : va_D (kA w0) (MW a cI z (nI ns) zh (nI nl) tx th pa (nI nrd) nu (nI npt) wy za) := hD
          refine lv_aload_n hx hb dX5_takesDigit_104 rfl (lv_at hl 3 rfl) ?_
          refine va_get (D := D) (ci := 5) (v := .ref (a 4)) (C := RX5) (T := TX5) (N := 12) hx hb hts iX5_takesDigit_5 hown hK hP 0 rfl rfl 6 (by decide) (hts (.fieldLink RX5 19 "HallSightsModel" "parts" "[I") (List.mem_of_getElem? (i := 3) rfl)) (fun _ h9 => h9) rfl dX5_takesDigit_105 ?_
          refine lv_iconst (v := nI 3) hx hb dX5_takesDigit_108 (by decide) ?_
          refine lv_aload_n hx hb dX5_takesDigit_109 rfl (lv_at hl 3 rfl) ?_
          refine va_get (D := D) (ci := 5) (v := .int (nI nrd)) (C := RX5) (T := TX5) (N := 12) hx hb hts iX5_takesDigit_5 hown hK hP 0 rfl rfl 7 (by decide) (hts (.fieldLink RX5 140 "HallSightsModel" "read" "I") (List.mem_of_getElem? (i := 4) rfl)) (fun _ h9 => h9) rfl dX5_takesDigit_110 ?_
          refine kx_imul hx hb dX5_takesDigit_113 ?_
          refine lv_aload_n hx hb dX5_takesDigit_114 rfl (lv_at hl 3 rfl) ?_
          refine va_get (D := D) (ci := 5) (v := .int (nI npt)) (C := RX5) (T := TX5) (N := 12) hx hb hts iX5_takesDigit_5 hown hK hP 0 rfl rfl 9 (by decide) (hts (.fieldLink RX5 137 "HallSightsModel" "part" "I") (List.mem_of_getElem? (i := 2) rfl)) (fun _ h9 => h9) rfl dX5_takesDigit_115 ?_
          refine kx_iadd hx hb dX5_takesDigit_118 ?_
          refine lv_aload_n hx hb dX5_takesDigit_119 rfl (lv_at hl 3 rfl) ?_
          refine va_get (D := D) (ci := 5) (v := .int nu) (C := RX5) (T := TX5) (N := 12) hx hb hts iX5_takesDigit_5 hown hK hP 0 rfl rfl 8 (by decide) (hts (.fieldLink RX5 134 "HallSightsModel" "number" "I") (List.mem_of_getElem? (i := 1) rfl)) (fun _ h9 => h9) rfl dX5_takesDigit_120 ?_
          refine kx_iast hx hb hK hP hD hS 4 0 rfl rfl (by omega) (by decide) dX5_takesDigit_123 (fun H locs hP hD hS => ?_)
          have hP : va_P D vwCl (MW a cI z (nI ns) zh (nI nl) tx th (upd pa ((3 * nrd) + npt) nu) (nI nrd) nu (nI npt) wy za) H := hP
          have hD : va_D (kA w0) (MW a cI z (nI ns) zh (nI nl) tx th (upd pa ((3 * nrd) + npt) nu) (nI nrd) nu (nI npt) wy za) := hD
          refine lv_iload hx hb dX5_takesDigit_124 (lv_at hl 0 rfl) ?_
          have e_91 : (false : Bool) = (tdB nu npt d0) := by first | rfl | omega | (simp [tdB, tdNu, tdV, tdR, Int32.not_lt, Int32.not_le, c_5_1, c_26_84, Nat.ne_of_gt c_26_84, c_41_86, c_66_88]; done) | (simp [tdB, tdNu, tdV, tdR, Int32.not_lt, Int32.not_le, c_5_1, c_26_84, Nat.ne_of_gt c_26_84, c_41_86, c_66_88]; omega) | (revert c_5_1 c_26_84 c_41_86 c_66_88; simp +contextual [tdB, tdNu, tdV, tdR, Int32.not_lt, Int32.not_le]; done) | (revert c_5_1 c_26_84 c_41_86 c_66_88; simp +contextual [tdB, tdNu, tdV, tdR, Int32.not_lt, Int32.not_le]; omega)
          have ec_pa_92 : ((upd pa ((3 * nrd) + npt) nu) : ZZ) = (upd pa (3 * nrd + npt) (tdNu nu npt d0)) := by first | rfl | omega | (simp [tdB, tdNu, tdV, tdR, Int32.not_lt, Int32.not_le, c_5_1, c_26_84, Nat.ne_of_gt c_26_84, c_41_86, c_66_88]; done) | (simp [tdB, tdNu, tdV, tdR, Int32.not_lt, Int32.not_le, c_5_1, c_26_84, Nat.ne_of_gt c_26_84, c_41_86, c_66_88]; omega) | (revert c_5_1 c_26_84 c_41_86 c_66_88; simp +contextual [tdB, tdNu, tdV, tdR, Int32.not_lt, Int32.not_le]; done) | (revert c_5_1 c_26_84 c_41_86 c_66_88; simp +contextual [tdB, tdNu, tdV, tdR, Int32.not_lt, Int32.not_le]; omega)
          have ec_nu_93 : (nu : Int32) = (tdNu nu npt d0) := by first | rfl | omega | (simp [tdB, tdNu, tdV, tdR, Int32.not_lt, Int32.not_le, c_5_1, c_26_84, Nat.ne_of_gt c_26_84, c_41_86, c_66_88]; done) | (simp [tdB, tdNu, tdV, tdR, Int32.not_lt, Int32.not_le, c_5_1, c_26_84, Nat.ne_of_gt c_26_84, c_41_86, c_66_88]; omega) | (revert c_5_1 c_26_84 c_41_86 c_66_88; simp +contextual [tdB, tdNu, tdV, tdR, Int32.not_lt, Int32.not_le]; done) | (revert c_5_1 c_26_84 c_41_86 c_66_88; simp +contextual [tdB, tdNu, tdV, tdR, Int32.not_lt, Int32.not_le]; omega)
          have ew_94 : (MW a cI z (nI ns) zh (nI nl) tx th (upd pa ((3 * nrd) + npt) nu) (nI nrd) nu (nI npt) wy za : va_W) = (MW a cI z (nI ns) zh (nI nl) tx th (upd pa (3 * nrd + npt) (tdNu nu npt d0)) (nI nrd) (tdNu nu npt d0) (nI npt) wy za) := mw_c rfl rfl rfl rfl rfl rfl ec_pa_92 rfl ec_nu_93 rfl rfl rfl
          rw [ew_94] at hP hD
          subst hw0
          exact kq_zret hx hb hrt hlocks (congrArg bI e_91) hP hD hS dX5_takesDigit_126
        · refine lv_aload_n hx hb dX5_takesDigit_69 rfl (lv_at hl 2 rfl) ?_
          refine va_get (D := D) (ci := 5) (v := .int nu) (C := RX5) (T := TX5) (N := 12) hx hb hts iX5_takesDigit_5 hown hK hP 0 rfl rfl 8 (by decide) (hts (.fieldLink RX5 134 "HallSightsModel" "number" "I") (List.mem_of_getElem? (i := 1) rfl)) (fun _ h9 => h9) rfl dX5_takesDigit_70 ?_
          refine lv_if_eq (tgt := 84) hx hb dX5_takesDigit_73 (by decide) (fun c_73_95 => ?_) (fun c_73_96 => ?_)
          · have c_73_95 : (nu : Int32) = 0 := c_73_95
            refine lv_iconst (v := nI 0) hx hb dX5_takesDigit_84 (by decide) ?_
            refine lv_istore (lv' := [(4, .int (nI 0)), (3, .int (bI (wthn d0 (nI 1) (nI 12)))), (2, .int d0), (0, .ref (a 0)), (1, .int d0)]) hx hb dX5_takesDigit_85 hl (by decide) rfl (fun ls hl => ?_)
            refine lv_aload_n hx hb dX5_takesDigit_87 rfl (lv_at hl 3 rfl) ?_
            refine lv_iload hx hb dX5_takesDigit_88 (lv_at hl 0 rfl) ?_
            refine kx_if_eq (tgt := 97) hx hb (by omega) dX5_takesDigit_90 (by decide) (fun c_90_97 => ?_) (fun c => absurd c (by omega))
            refine lv_aload_n hx hb dX5_takesDigit_97 rfl (lv_at hl 3 rfl) ?_
            refine va_get (D := D) (ci := 5) (v := .int nu) (C := RX5) (T := TX5) (N := 12) hx hb hts iX5_takesDigit_5 hown hK hP 0 rfl rfl 8 (by decide) (hts (.fieldLink RX5 134 "HallSightsModel" "number" "I") (List.mem_of_getElem? (i := 1) rfl)) (fun _ h9 => h9) rfl dX5_takesDigit_98 ?_
            refine va_put (D := D) (ci := 5) (v := .int nu) (ty := .int) (C := RX5) (T := TX5) (N := 12) hx hb hts iX5_takesDigit_5 tyX5 tyX5_ok nmX5 hown hK hP hD hS 0 rfl rfl 8 (by decide) (hts (.fieldLink RX5 134 "HallSightsModel" "number" "I") (List.mem_of_getElem? (i := 1) rfl)) (fun _ h9 => h9) rfl (by decide +kernel) rfl rfl (Nat.le_of_ble_eq_true rfl) dX5_takesDigit_101 (fun H locs hP hD hS => ?_)
            have hP : va_P D vwCl (MW a cI z (nI ns) zh (nI nl) tx th pa (nI nrd) nu (nI npt) wy za) H := hP
            have hD : va_D (kA w0) (MW a cI z (nI ns) zh (nI nl) tx th pa (nI nrd) nu (nI npt) wy za) := hD
            refine lv_aload_n hx hb dX5_takesDigit_104 rfl (lv_at hl 3 rfl) ?_
            refine va_get (D := D) (ci := 5) (v := .ref (a 4)) (C := RX5) (T := TX5) (N := 12) hx hb hts iX5_takesDigit_5 hown hK hP 0 rfl rfl 6 (by decide) (hts (.fieldLink RX5 19 "HallSightsModel" "parts" "[I") (List.mem_of_getElem? (i := 3) rfl)) (fun _ h9 => h9) rfl dX5_takesDigit_105 ?_
            refine lv_iconst (v := nI 3) hx hb dX5_takesDigit_108 (by decide) ?_
            refine lv_aload_n hx hb dX5_takesDigit_109 rfl (lv_at hl 3 rfl) ?_
            refine va_get (D := D) (ci := 5) (v := .int (nI nrd)) (C := RX5) (T := TX5) (N := 12) hx hb hts iX5_takesDigit_5 hown hK hP 0 rfl rfl 7 (by decide) (hts (.fieldLink RX5 140 "HallSightsModel" "read" "I") (List.mem_of_getElem? (i := 4) rfl)) (fun _ h9 => h9) rfl dX5_takesDigit_110 ?_
            refine kx_imul hx hb dX5_takesDigit_113 ?_
            refine lv_aload_n hx hb dX5_takesDigit_114 rfl (lv_at hl 3 rfl) ?_
            refine va_get (D := D) (ci := 5) (v := .int (nI npt)) (C := RX5) (T := TX5) (N := 12) hx hb hts iX5_takesDigit_5 hown hK hP 0 rfl rfl 9 (by decide) (hts (.fieldLink RX5 137 "HallSightsModel" "part" "I") (List.mem_of_getElem? (i := 2) rfl)) (fun _ h9 => h9) rfl dX5_takesDigit_115 ?_
            refine kx_iadd hx hb dX5_takesDigit_118 ?_
            refine lv_aload_n hx hb dX5_takesDigit_119 rfl (lv_at hl 3 rfl) ?_
            refine va_get (D := D) (ci := 5) (v := .int nu) (C := RX5) (T := TX5) (N := 12) hx hb hts iX5_takesDigit_5 hown hK hP 0 rfl rfl 8 (by decide) (hts (.fieldLink RX5 134 "HallSightsModel" "number" "I") (List.mem_of_getElem? (i := 1) rfl)) (fun _ h9 => h9) rfl dX5_takesDigit_120 ?_
            refine kx_iast hx hb hK hP hD hS 4 0 rfl rfl (by omega) (by decide) dX5_takesDigit_123 (fun H locs hP hD hS => ?_)
            have hP : va_P D vwCl (MW a cI z (nI ns) zh (nI nl) tx th (upd pa ((3 * nrd) + npt) nu) (nI nrd) nu (nI npt) wy za) H := hP
            have hD : va_D (kA w0) (MW a cI z (nI ns) zh (nI nl) tx th (upd pa ((3 * nrd) + npt) nu) (nI nrd) nu (nI npt) wy za) := hD
            refine lv_iload hx hb dX5_takesDigit_124 (lv_at hl 0 rfl) ?_
            have e_98 : (false : Bool) = (tdB nu npt d0) := by first | rfl | omega | (simp [tdB, tdNu, tdV, tdR, Int32.not_lt, Int32.not_le, c_5_1, c_26_84, Nat.ne_of_gt c_26_84, c_41_86, c_66_89, c_73_95]; done) | (simp [tdB, tdNu, tdV, tdR, Int32.not_lt, Int32.not_le, c_5_1, c_26_84, Nat.ne_of_gt c_26_84, c_41_86, c_66_89, c_73_95]; omega) | (revert c_5_1 c_26_84 c_41_86 c_66_89 c_73_95; simp +contextual [tdB, tdNu, tdV, tdR, Int32.not_lt, Int32.not_le]; done) | (revert c_5_1 c_26_84 c_41_86 c_66_89 c_73_95; simp +contextual [tdB, tdNu, tdV, tdR, Int32.not_lt, Int32.not_le]; omega)
            have ec_pa_99 : ((upd pa ((3 * nrd) + npt) nu) : ZZ) = (upd pa (3 * nrd + npt) (tdNu nu npt d0)) := by first | rfl | omega | (simp [tdB, tdNu, tdV, tdR, Int32.not_lt, Int32.not_le, c_5_1, c_26_84, Nat.ne_of_gt c_26_84, c_41_86, c_66_89, c_73_95]; done) | (simp [tdB, tdNu, tdV, tdR, Int32.not_lt, Int32.not_le, c_5_1, c_26_84, Nat.ne_of_gt c_26_84, c_41_86, c_66_89, c_73_95]; omega) | (revert c_5_1 c_26_84 c_41_86 c_66_89 c_73_95; simp +contextual [tdB, tdNu, tdV, tdR, Int32.not_lt, Int32.not_le]; done) | (revert c_5_1 c_26_84 c_41_86 c_66_89 c_73_95; simp +contextual [tdB, tdNu, tdV, tdR, Int32.not_lt, Int32.not_le]; omega)
            have ec_nu_100 : (nu : Int32) = (tdNu nu npt d0) := by first | rfl | omega | (simp [tdB, tdNu, tdV, tdR, Int32.not_lt, Int32.not_le, c_5_1, c_26_84, Nat.ne_of_gt c_26_84, c_41_86, c_66_89, c_73_95]; done) | (simp [tdB, tdNu, tdV, tdR, Int32.not_lt, Int32.not_le, c_5_1, c_26_84, Nat.ne_of_gt c_26_84, c_41_86, c_66_89, c_73_95]; omega) | (revert c_5_1 c_26_84 c_41_86 c_66_89 c_73_95; simp +contextual [tdB, tdNu, tdV, tdR, Int32.not_lt, Int32.not_le]; done) | (revert c_5_1 c_26_84 c_41_86 c_66_89 c_73_95; simp +contextual [tdB, tdNu, tdV, tdR, Int32.not_lt, Int32.not_le]; omega)
            have ew_101 : (MW a cI z (nI ns) zh (nI nl) tx th (upd pa ((3 * nrd) + npt) nu) (nI nrd) nu (nI npt) wy za : va_W) = (MW a cI z (nI ns) zh (nI nl) tx th (upd pa (3 * nrd + npt) (tdNu nu npt d0)) (nI nrd) (tdNu nu npt d0) (nI npt) wy za) := mw_c rfl rfl rfl rfl rfl rfl ec_pa_99 rfl ec_nu_100 rfl rfl rfl
            rw [ew_101] at hP hD
            subst hw0
            exact kq_zret hx hb hrt hlocks (congrArg bI e_98) hP hD hS dX5_takesDigit_126
          · have c_73_96 : ¬ (nu : Int32) = 0 := c_73_96
            refine lv_iload_n hx hb dX5_takesDigit_76 rfl (lv_at hl 0 rfl) ?_
            refine kx_if_eqb (tgt := 84) hx hb dX5_takesDigit_77 (by decide) (fun c_77_102 => ?_) (fun c_77_103 => ?_)
            · refine lv_iconst (v := nI 0) hx hb dX5_takesDigit_84 (by decide) ?_
              refine lv_istore (lv' := [(4, .int (nI 0)), (3, .int (bI (wthn d0 (nI 1) (nI 12)))), (2, .int d0), (0, .ref (a 0)), (1, .int d0)]) hx hb dX5_takesDigit_85 hl (by decide) rfl (fun ls hl => ?_)
              refine lv_aload_n hx hb dX5_takesDigit_87 rfl (lv_at hl 3 rfl) ?_
              refine lv_iload hx hb dX5_takesDigit_88 (lv_at hl 0 rfl) ?_
              refine kx_if_eq (tgt := 97) hx hb (by omega) dX5_takesDigit_90 (by decide) (fun c_90_104 => ?_) (fun c => absurd c (by omega))
              refine lv_aload_n hx hb dX5_takesDigit_97 rfl (lv_at hl 3 rfl) ?_
              refine va_get (D := D) (ci := 5) (v := .int nu) (C := RX5) (T := TX5) (N := 12) hx hb hts iX5_takesDigit_5 hown hK hP 0 rfl rfl 8 (by decide) (hts (.fieldLink RX5 134 "HallSightsModel" "number" "I") (List.mem_of_getElem? (i := 1) rfl)) (fun _ h9 => h9) rfl dX5_takesDigit_98 ?_
              refine va_put (D := D) (ci := 5) (v := .int nu) (ty := .int) (C := RX5) (T := TX5) (N := 12) hx hb hts iX5_takesDigit_5 tyX5 tyX5_ok nmX5 hown hK hP hD hS 0 rfl rfl 8 (by decide) (hts (.fieldLink RX5 134 "HallSightsModel" "number" "I") (List.mem_of_getElem? (i := 1) rfl)) (fun _ h9 => h9) rfl (by decide +kernel) rfl rfl (Nat.le_of_ble_eq_true rfl) dX5_takesDigit_101 (fun H locs hP hD hS => ?_)
              have hP : va_P D vwCl (MW a cI z (nI ns) zh (nI nl) tx th pa (nI nrd) nu (nI npt) wy za) H := hP
              have hD : va_D (kA w0) (MW a cI z (nI ns) zh (nI nl) tx th pa (nI nrd) nu (nI npt) wy za) := hD
              refine lv_aload_n hx hb dX5_takesDigit_104 rfl (lv_at hl 3 rfl) ?_
              refine va_get (D := D) (ci := 5) (v := .ref (a 4)) (C := RX5) (T := TX5) (N := 12) hx hb hts iX5_takesDigit_5 hown hK hP 0 rfl rfl 6 (by decide) (hts (.fieldLink RX5 19 "HallSightsModel" "parts" "[I") (List.mem_of_getElem? (i := 3) rfl)) (fun _ h9 => h9) rfl dX5_takesDigit_105 ?_
              refine lv_iconst (v := nI 3) hx hb dX5_takesDigit_108 (by decide) ?_
              refine lv_aload_n hx hb dX5_takesDigit_109 rfl (lv_at hl 3 rfl) ?_
              refine va_get (D := D) (ci := 5) (v := .int (nI nrd)) (C := RX5) (T := TX5) (N := 12) hx hb hts iX5_takesDigit_5 hown hK hP 0 rfl rfl 7 (by decide) (hts (.fieldLink RX5 140 "HallSightsModel" "read" "I") (List.mem_of_getElem? (i := 4) rfl)) (fun _ h9 => h9) rfl dX5_takesDigit_110 ?_
              refine kx_imul hx hb dX5_takesDigit_113 ?_
              refine lv_aload_n hx hb dX5_takesDigit_114 rfl (lv_at hl 3 rfl) ?_
              refine va_get (D := D) (ci := 5) (v := .int (nI npt)) (C := RX5) (T := TX5) (N := 12) hx hb hts iX5_takesDigit_5 hown hK hP 0 rfl rfl 9 (by decide) (hts (.fieldLink RX5 137 "HallSightsModel" "part" "I") (List.mem_of_getElem? (i := 2) rfl)) (fun _ h9 => h9) rfl dX5_takesDigit_115 ?_
              refine kx_iadd hx hb dX5_takesDigit_118 ?_
              refine lv_aload_n hx hb dX5_takesDigit_119 rfl (lv_at hl 3 rfl) ?_
              refine va_get (D := D) (ci := 5) (v := .int nu) (C := RX5) (T := TX5) (N := 12) hx hb hts iX5_takesDigit_5 hown hK hP 0 rfl rfl 8 (by decide) (hts (.fieldLink RX5 134 "HallSightsModel" "number" "I") (List.mem_of_getElem? (i := 1) rfl)) (fun _ h9 => h9) rfl dX5_takesDigit_120 ?_
              refine kx_iast hx hb hK hP hD hS 4 0 rfl rfl (by omega) (by decide) dX5_takesDigit_123 (fun H locs hP hD hS => ?_)
              have hP : va_P D vwCl (MW a cI z (nI ns) zh (nI nl) tx th (upd pa ((3 * nrd) + npt) nu) (nI nrd) nu (nI npt) wy za) H := hP
              have hD : va_D (kA w0) (MW a cI z (nI ns) zh (nI nl) tx th (upd pa ((3 * nrd) + npt) nu) (nI nrd) nu (nI npt) wy za) := hD
              refine lv_iload hx hb dX5_takesDigit_124 (lv_at hl 0 rfl) ?_
              have e_105 : (false : Bool) = (tdB nu npt d0) := by first | rfl | omega | (simp [tdB, tdNu, tdV, tdR, Int32.not_lt, Int32.not_le, c_5_1, c_26_84, Nat.ne_of_gt c_26_84, c_41_86, c_66_89, c_73_96, c_77_102]; done) | (simp [tdB, tdNu, tdV, tdR, Int32.not_lt, Int32.not_le, c_5_1, c_26_84, Nat.ne_of_gt c_26_84, c_41_86, c_66_89, c_73_96, c_77_102]; omega) | (revert c_5_1 c_26_84 c_41_86 c_66_89 c_73_96 c_77_102; simp +contextual [tdB, tdNu, tdV, tdR, Int32.not_lt, Int32.not_le]; done) | (revert c_5_1 c_26_84 c_41_86 c_66_89 c_73_96 c_77_102; simp +contextual [tdB, tdNu, tdV, tdR, Int32.not_lt, Int32.not_le]; omega)
              have ec_pa_106 : ((upd pa ((3 * nrd) + npt) nu) : ZZ) = (upd pa (3 * nrd + npt) (tdNu nu npt d0)) := by first | rfl | omega | (simp [tdB, tdNu, tdV, tdR, Int32.not_lt, Int32.not_le, c_5_1, c_26_84, Nat.ne_of_gt c_26_84, c_41_86, c_66_89, c_73_96, c_77_102]; done) | (simp [tdB, tdNu, tdV, tdR, Int32.not_lt, Int32.not_le, c_5_1, c_26_84, Nat.ne_of_gt c_26_84, c_41_86, c_66_89, c_73_96, c_77_102]; omega) | (revert c_5_1 c_26_84 c_41_86 c_66_89 c_73_96 c_77_102; simp +contextual [tdB, tdNu, tdV, tdR, Int32.not_lt, Int32.not_le]; done) | (revert c_5_1 c_26_84 c_41_86 c_66_89 c_73_96 c_77_102; simp +contextual [tdB, tdNu, tdV, tdR, Int32.not_lt, Int32.not_le]; omega)
              have ec_nu_107 : (nu : Int32) = (tdNu nu npt d0) := by first | rfl | omega | (simp [tdB, tdNu, tdV, tdR, Int32.not_lt, Int32.not_le, c_5_1, c_26_84, Nat.ne_of_gt c_26_84, c_41_86, c_66_89, c_73_96, c_77_102]; done) | (simp [tdB, tdNu, tdV, tdR, Int32.not_lt, Int32.not_le, c_5_1, c_26_84, Nat.ne_of_gt c_26_84, c_41_86, c_66_89, c_73_96, c_77_102]; omega) | (revert c_5_1 c_26_84 c_41_86 c_66_89 c_73_96 c_77_102; simp +contextual [tdB, tdNu, tdV, tdR, Int32.not_lt, Int32.not_le]; done) | (revert c_5_1 c_26_84 c_41_86 c_66_89 c_73_96 c_77_102; simp +contextual [tdB, tdNu, tdV, tdR, Int32.not_lt, Int32.not_le]; omega)
              have ew_108 : (MW a cI z (nI ns) zh (nI nl) tx th (upd pa ((3 * nrd) + npt) nu) (nI nrd) nu (nI npt) wy za : va_W) = (MW a cI z (nI ns) zh (nI nl) tx th (upd pa (3 * nrd + npt) (tdNu nu npt d0)) (nI nrd) (tdNu nu npt d0) (nI npt) wy za) := mw_c rfl rfl rfl rfl rfl rfl ec_pa_106 rfl ec_nu_107 rfl rfl rfl
              rw [ew_108] at hP hD
              subst hw0
              exact kq_zret hx hb hrt hlocks (congrArg bI e_105) hP hD hS dX5_takesDigit_126
            · refine lv_iconst (v := nI 1) hx hb dX5_takesDigit_80 (by decide) ?_
              refine lv_goto (tgt := 85) hx hb dX5_takesDigit_81 (by decide) ?_
              refine lv_istore (lv' := [(4, .int (nI 1)), (3, .int (bI (wthn d0 (nI 1) (nI 12)))), (2, .int d0), (0, .ref (a 0)), (1, .int d0)]) hx hb dX5_takesDigit_85 hl (by decide) rfl (fun ls hl => ?_)
              refine lv_aload_n hx hb dX5_takesDigit_87 rfl (lv_at hl 3 rfl) ?_
              refine lv_iload hx hb dX5_takesDigit_88 (lv_at hl 0 rfl) ?_
              refine kx_if_eq (tgt := 97) hx hb (by omega) dX5_takesDigit_90 (by decide) (fun c => absurd c (by omega)) (fun c_90_109 => ?_)
              refine lv_iload_n hx hb dX5_takesDigit_93 rfl (lv_at hl 2 rfl) ?_
              refine lv_goto (tgt := 101) hx hb dX5_takesDigit_94 (by decide) ?_
              refine va_put (D := D) (ci := 5) (v := .int d0) (ty := .int) (C := RX5) (T := TX5) (N := 12) hx hb hts iX5_takesDigit_5 tyX5 tyX5_ok nmX5 hown hK hP hD hS 0 rfl rfl 8 (by decide) (hts (.fieldLink RX5 134 "HallSightsModel" "number" "I") (List.mem_of_getElem? (i := 1) rfl)) (fun _ h9 => h9) rfl (by decide +kernel) rfl rfl (Nat.le_of_ble_eq_true rfl) dX5_takesDigit_101 (fun H locs hP hD hS => ?_)
              have hP : va_P D vwCl (MW a cI z (nI ns) zh (nI nl) tx th pa (nI nrd) d0 (nI npt) wy za) H := hP
              have hD : va_D (kA w0) (MW a cI z (nI ns) zh (nI nl) tx th pa (nI nrd) d0 (nI npt) wy za) := hD
              refine lv_aload_n hx hb dX5_takesDigit_104 rfl (lv_at hl 3 rfl) ?_
              refine va_get (D := D) (ci := 5) (v := .ref (a 4)) (C := RX5) (T := TX5) (N := 12) hx hb hts iX5_takesDigit_5 hown hK hP 0 rfl rfl 6 (by decide) (hts (.fieldLink RX5 19 "HallSightsModel" "parts" "[I") (List.mem_of_getElem? (i := 3) rfl)) (fun _ h9 => h9) rfl dX5_takesDigit_105 ?_
              refine lv_iconst (v := nI 3) hx hb dX5_takesDigit_108 (by decide) ?_
              refine lv_aload_n hx hb dX5_takesDigit_109 rfl (lv_at hl 3 rfl) ?_
              refine va_get (D := D) (ci := 5) (v := .int (nI nrd)) (C := RX5) (T := TX5) (N := 12) hx hb hts iX5_takesDigit_5 hown hK hP 0 rfl rfl 7 (by decide) (hts (.fieldLink RX5 140 "HallSightsModel" "read" "I") (List.mem_of_getElem? (i := 4) rfl)) (fun _ h9 => h9) rfl dX5_takesDigit_110 ?_
              refine kx_imul hx hb dX5_takesDigit_113 ?_
              refine lv_aload_n hx hb dX5_takesDigit_114 rfl (lv_at hl 3 rfl) ?_
              refine va_get (D := D) (ci := 5) (v := .int (nI npt)) (C := RX5) (T := TX5) (N := 12) hx hb hts iX5_takesDigit_5 hown hK hP 0 rfl rfl 9 (by decide) (hts (.fieldLink RX5 137 "HallSightsModel" "part" "I") (List.mem_of_getElem? (i := 2) rfl)) (fun _ h9 => h9) rfl dX5_takesDigit_115 ?_
              refine kx_iadd hx hb dX5_takesDigit_118 ?_
              refine lv_aload_n hx hb dX5_takesDigit_119 rfl (lv_at hl 3 rfl) ?_
              refine va_get (D := D) (ci := 5) (v := .int d0) (C := RX5) (T := TX5) (N := 12) hx hb hts iX5_takesDigit_5 hown hK hP 0 rfl rfl 8 (by decide) (hts (.fieldLink RX5 134 "HallSightsModel" "number" "I") (List.mem_of_getElem? (i := 1) rfl)) (fun _ h9 => h9) rfl dX5_takesDigit_120 ?_
              refine kx_iast hx hb hK hP hD hS 4 0 rfl rfl (by omega) (by decide) dX5_takesDigit_123 (fun H locs hP hD hS => ?_)
              have hP : va_P D vwCl (MW a cI z (nI ns) zh (nI nl) tx th (upd pa ((3 * nrd) + npt) d0) (nI nrd) d0 (nI npt) wy za) H := hP
              have hD : va_D (kA w0) (MW a cI z (nI ns) zh (nI nl) tx th (upd pa ((3 * nrd) + npt) d0) (nI nrd) d0 (nI npt) wy za) := hD
              refine lv_iload hx hb dX5_takesDigit_124 (lv_at hl 0 rfl) ?_
              have e_110 : (true : Bool) = (tdB nu npt d0) := by first | rfl | omega | (simp [tdB, tdNu, tdV, tdR, Int32.not_lt, Int32.not_le, c_5_1, c_26_84, Nat.ne_of_gt c_26_84, c_41_86, c_66_89, c_73_96, c_77_103]; done) | (simp [tdB, tdNu, tdV, tdR, Int32.not_lt, Int32.not_le, c_5_1, c_26_84, Nat.ne_of_gt c_26_84, c_41_86, c_66_89, c_73_96, c_77_103]; omega) | (revert c_5_1 c_26_84 c_41_86 c_66_89 c_73_96 c_77_103; simp +contextual [tdB, tdNu, tdV, tdR, Int32.not_lt, Int32.not_le]; done) | (revert c_5_1 c_26_84 c_41_86 c_66_89 c_73_96 c_77_103; simp +contextual [tdB, tdNu, tdV, tdR, Int32.not_lt, Int32.not_le]; omega)
              have ec_pa_111 : ((upd pa ((3 * nrd) + npt) d0) : ZZ) = (upd pa (3 * nrd + npt) (tdNu nu npt d0)) := by first | rfl | omega | (simp [tdB, tdNu, tdV, tdR, Int32.not_lt, Int32.not_le, c_5_1, c_26_84, Nat.ne_of_gt c_26_84, c_41_86, c_66_89, c_73_96, c_77_103]; done) | (simp [tdB, tdNu, tdV, tdR, Int32.not_lt, Int32.not_le, c_5_1, c_26_84, Nat.ne_of_gt c_26_84, c_41_86, c_66_89, c_73_96, c_77_103]; omega) | (revert c_5_1 c_26_84 c_41_86 c_66_89 c_73_96 c_77_103; simp +contextual [tdB, tdNu, tdV, tdR, Int32.not_lt, Int32.not_le]; done) | (revert c_5_1 c_26_84 c_41_86 c_66_89 c_73_96 c_77_103; simp +contextual [tdB, tdNu, tdV, tdR, Int32.not_lt, Int32.not_le]; omega)
              have ec_nu_112 : (d0 : Int32) = (tdNu nu npt d0) := by first | rfl | omega | (simp [tdB, tdNu, tdV, tdR, Int32.not_lt, Int32.not_le, c_5_1, c_26_84, Nat.ne_of_gt c_26_84, c_41_86, c_66_89, c_73_96, c_77_103]; done) | (simp [tdB, tdNu, tdV, tdR, Int32.not_lt, Int32.not_le, c_5_1, c_26_84, Nat.ne_of_gt c_26_84, c_41_86, c_66_89, c_73_96, c_77_103]; omega) | (revert c_5_1 c_26_84 c_41_86 c_66_89 c_73_96 c_77_103; simp +contextual [tdB, tdNu, tdV, tdR, Int32.not_lt, Int32.not_le]; done) | (revert c_5_1 c_26_84 c_41_86 c_66_89 c_73_96 c_77_103; simp +contextual [tdB, tdNu, tdV, tdR, Int32.not_lt, Int32.not_le]; omega)
              have ew_113 : (MW a cI z (nI ns) zh (nI nl) tx th (upd pa ((3 * nrd) + npt) d0) (nI nrd) d0 (nI npt) wy za : va_W) = (MW a cI z (nI ns) zh (nI nl) tx th (upd pa (3 * nrd + npt) (tdNu nu npt d0)) (nI nrd) (tdNu nu npt d0) (nI npt) wy za) := mw_c rfl rfl rfl rfl rfl rfl ec_pa_111 rfl ec_nu_112 rfl rfl rfl
              rw [ew_113] at hP hD
              subst hw0
              exact kq_zret hx hb hrt hlocks (congrArg bI e_110) hP hD hS dX5_takesDigit_126
      · refine lv_iload_n hx hb dX5_takesDigit_44 rfl (lv_at hl 0 rfl) ?_
        refine kr_S (As := [.int d0]) (rest := []) (own := RX5) ⟨hx, hb, hml, hown, hts⟩ (c_X5_isHeight l D cI cC cH cL  d0 ) (va_cwS 1 hts gX5_takesDigit_X5_isHeight rfl rfl rfl k_X5_isHeightS ⟨Nat.le_of_ble_eq_true rfl, Nat.le_of_ble_eq_true rfl⟩) (hP.sub (ws' := []) [] rfl) hK rfl hl.1 rfl (Nat.le_of_ble_eq_true rfl) dX5_takesDigit_45 ⟨Nat.le_of_ble_eq_true rfl, Nat.le_of_ble_eq_true rfl⟩ ?_
        refine lv_goto (tgt := 58) hx hb dX5_takesDigit_48 (by decide) ?_
        refine lv_istore_n (lv' := [(3, .int (bI (wthn d0 (nI 0) (nI 999)))), (2, .int d0), (0, .ref (a 0)), (1, .int d0)]) hx hb dX5_takesDigit_58 rfl hl (by decide) rfl (fun ls hl => ?_)
        refine lv_iload_n hx hb dX5_takesDigit_59 rfl (lv_at hl 3 rfl) ?_
        refine lv_iconst (v := nI 0) hx hb dX5_takesDigit_60 (by decide) ?_
        refine lv_bipush (v := nI 9) hx hb dX5_takesDigit_61 (by decide) ?_
        refine kr_S (As := [.int d0, .int (nI 0), .int (nI 9)]) (rest := []) (own := RX5) ⟨hx, hb, hml, hown, hts⟩ (c_X5_within l D cI cC cH cL  d0 (nI 0) (nI 9) ) (va_cwS 3 hts gX5_takesDigit_X5_within rfl rfl rfl k_X5_withinS ⟨Nat.le_of_ble_eq_true rfl, Nat.le_of_ble_eq_true rfl⟩) (hP.sub (ws' := []) [] rfl) hK rfl hl.1 rfl (Nat.le_of_ble_eq_true rfl) dX5_takesDigit_63 ⟨Nat.le_of_ble_eq_true rfl, Nat.le_of_ble_eq_true rfl⟩ ?_
        refine kx_if_eqb (tgt := 84) hx hb dX5_takesDigit_66 (by decide) (fun c_66_114 => ?_) (fun c_66_115 => ?_)
        · refine lv_iconst (v := nI 0) hx hb dX5_takesDigit_84 (by decide) ?_
          refine lv_istore (lv' := [(4, .int (nI 0)), (3, .int (bI (wthn d0 (nI 0) (nI 999)))), (2, .int d0), (0, .ref (a 0)), (1, .int d0)]) hx hb dX5_takesDigit_85 hl (by decide) rfl (fun ls hl => ?_)
          refine lv_aload_n hx hb dX5_takesDigit_87 rfl (lv_at hl 3 rfl) ?_
          refine lv_iload hx hb dX5_takesDigit_88 (lv_at hl 0 rfl) ?_
          refine kx_if_eq (tgt := 97) hx hb (by omega) dX5_takesDigit_90 (by decide) (fun c_90_116 => ?_) (fun c => absurd c (by omega))
          refine lv_aload_n hx hb dX5_takesDigit_97 rfl (lv_at hl 3 rfl) ?_
          refine va_get (D := D) (ci := 5) (v := .int nu) (C := RX5) (T := TX5) (N := 12) hx hb hts iX5_takesDigit_5 hown hK hP 0 rfl rfl 8 (by decide) (hts (.fieldLink RX5 134 "HallSightsModel" "number" "I") (List.mem_of_getElem? (i := 1) rfl)) (fun _ h9 => h9) rfl dX5_takesDigit_98 ?_
          refine va_put (D := D) (ci := 5) (v := .int nu) (ty := .int) (C := RX5) (T := TX5) (N := 12) hx hb hts iX5_takesDigit_5 tyX5 tyX5_ok nmX5 hown hK hP hD hS 0 rfl rfl 8 (by decide) (hts (.fieldLink RX5 134 "HallSightsModel" "number" "I") (List.mem_of_getElem? (i := 1) rfl)) (fun _ h9 => h9) rfl (by decide +kernel) rfl rfl (Nat.le_of_ble_eq_true rfl) dX5_takesDigit_101 (fun H locs hP hD hS => ?_)
          have hP : va_P D vwCl (MW a cI z (nI ns) zh (nI nl) tx th pa (nI nrd) nu (nI npt) wy za) H := hP
          have hD : va_D (kA w0) (MW a cI z (nI ns) zh (nI nl) tx th pa (nI nrd) nu (nI npt) wy za) := hD
          refine lv_aload_n hx hb dX5_takesDigit_104 rfl (lv_at hl 3 rfl) ?_
          refine va_get (D := D) (ci := 5) (v := .ref (a 4)) (C := RX5) (T := TX5) (N := 12) hx hb hts iX5_takesDigit_5 hown hK hP 0 rfl rfl 6 (by decide) (hts (.fieldLink RX5 19 "HallSightsModel" "parts" "[I") (List.mem_of_getElem? (i := 3) rfl)) (fun _ h9 => h9) rfl dX5_takesDigit_105 ?_
          refine lv_iconst (v := nI 3) hx hb dX5_takesDigit_108 (by decide) ?_
          refine lv_aload_n hx hb dX5_takesDigit_109 rfl (lv_at hl 3 rfl) ?_
          refine va_get (D := D) (ci := 5) (v := .int (nI nrd)) (C := RX5) (T := TX5) (N := 12) hx hb hts iX5_takesDigit_5 hown hK hP 0 rfl rfl 7 (by decide) (hts (.fieldLink RX5 140 "HallSightsModel" "read" "I") (List.mem_of_getElem? (i := 4) rfl)) (fun _ h9 => h9) rfl dX5_takesDigit_110 ?_
          refine kx_imul hx hb dX5_takesDigit_113 ?_
          refine lv_aload_n hx hb dX5_takesDigit_114 rfl (lv_at hl 3 rfl) ?_
          refine va_get (D := D) (ci := 5) (v := .int (nI npt)) (C := RX5) (T := TX5) (N := 12) hx hb hts iX5_takesDigit_5 hown hK hP 0 rfl rfl 9 (by decide) (hts (.fieldLink RX5 137 "HallSightsModel" "part" "I") (List.mem_of_getElem? (i := 2) rfl)) (fun _ h9 => h9) rfl dX5_takesDigit_115 ?_
          refine kx_iadd hx hb dX5_takesDigit_118 ?_
          refine lv_aload_n hx hb dX5_takesDigit_119 rfl (lv_at hl 3 rfl) ?_
          refine va_get (D := D) (ci := 5) (v := .int nu) (C := RX5) (T := TX5) (N := 12) hx hb hts iX5_takesDigit_5 hown hK hP 0 rfl rfl 8 (by decide) (hts (.fieldLink RX5 134 "HallSightsModel" "number" "I") (List.mem_of_getElem? (i := 1) rfl)) (fun _ h9 => h9) rfl dX5_takesDigit_120 ?_
          refine kx_iast hx hb hK hP hD hS 4 0 rfl rfl (by omega) (by decide) dX5_takesDigit_123 (fun H locs hP hD hS => ?_)
          have hP : va_P D vwCl (MW a cI z (nI ns) zh (nI nl) tx th (upd pa ((3 * nrd) + npt) nu) (nI nrd) nu (nI npt) wy za) H := hP
          have hD : va_D (kA w0) (MW a cI z (nI ns) zh (nI nl) tx th (upd pa ((3 * nrd) + npt) nu) (nI nrd) nu (nI npt) wy za) := hD
          refine lv_iload hx hb dX5_takesDigit_124 (lv_at hl 0 rfl) ?_
          have e_117 : (false : Bool) = (tdB nu npt d0) := by first | rfl | omega | (simp [tdB, tdNu, tdV, tdR, Int32.not_lt, Int32.not_le, c_5_1, c_26_84, Nat.ne_of_gt c_26_84, c_41_87, c_66_114]; done) | (simp [tdB, tdNu, tdV, tdR, Int32.not_lt, Int32.not_le, c_5_1, c_26_84, Nat.ne_of_gt c_26_84, c_41_87, c_66_114]; omega) | (revert c_5_1 c_26_84 c_41_87 c_66_114; simp +contextual [tdB, tdNu, tdV, tdR, Int32.not_lt, Int32.not_le]; done) | (revert c_5_1 c_26_84 c_41_87 c_66_114; simp +contextual [tdB, tdNu, tdV, tdR, Int32.not_lt, Int32.not_le]; omega)
          have ec_pa_118 : ((upd pa ((3 * nrd) + npt) nu) : ZZ) = (upd pa (3 * nrd + npt) (tdNu nu npt d0)) := by first | rfl | omega | (simp [tdB, tdNu, tdV, tdR, Int32.not_lt, Int32.not_le, c_5_1, c_26_84, Nat.ne_of_gt c_26_84, c_41_87, c_66_114]; done) | (simp [tdB, tdNu, tdV, tdR, Int32.not_lt, Int32.not_le, c_5_1, c_26_84, Nat.ne_of_gt c_26_84, c_41_87, c_66_114]; omega) | (revert c_5_1 c_26_84 c_41_87 c_66_114; simp +contextual [tdB, tdNu, tdV, tdR, Int32.not_lt, Int32.not_le]; done) | (revert c_5_1 c_26_84 c_41_87 c_66_114; simp +contextual [tdB, tdNu, tdV, tdR, Int32.not_lt, Int32.not_le]; omega)
          have ec_nu_119 : (nu : Int32) = (tdNu nu npt d0) := by first | rfl | omega | (simp [tdB, tdNu, tdV, tdR, Int32.not_lt, Int32.not_le, c_5_1, c_26_84, Nat.ne_of_gt c_26_84, c_41_87, c_66_114]; done) | (simp [tdB, tdNu, tdV, tdR, Int32.not_lt, Int32.not_le, c_5_1, c_26_84, Nat.ne_of_gt c_26_84, c_41_87, c_66_114]; omega) | (revert c_5_1 c_26_84 c_41_87 c_66_114; simp +contextual [tdB, tdNu, tdV, tdR, Int32.not_lt, Int32.not_le]; done) | (revert c_5_1 c_26_84 c_41_87 c_66_114; simp +contextual [tdB, tdNu, tdV, tdR, Int32.not_lt, Int32.not_le]; omega)
          have ew_120 : (MW a cI z (nI ns) zh (nI nl) tx th (upd pa ((3 * nrd) + npt) nu) (nI nrd) nu (nI npt) wy za : va_W) = (MW a cI z (nI ns) zh (nI nl) tx th (upd pa (3 * nrd + npt) (tdNu nu npt d0)) (nI nrd) (tdNu nu npt d0) (nI npt) wy za) := mw_c rfl rfl rfl rfl rfl rfl ec_pa_118 rfl ec_nu_119 rfl rfl rfl
          rw [ew_120] at hP hD
          subst hw0
          exact kq_zret hx hb hrt hlocks (congrArg bI e_117) hP hD hS dX5_takesDigit_126
        · refine lv_aload_n hx hb dX5_takesDigit_69 rfl (lv_at hl 2 rfl) ?_
          refine va_get (D := D) (ci := 5) (v := .int nu) (C := RX5) (T := TX5) (N := 12) hx hb hts iX5_takesDigit_5 hown hK hP 0 rfl rfl 8 (by decide) (hts (.fieldLink RX5 134 "HallSightsModel" "number" "I") (List.mem_of_getElem? (i := 1) rfl)) (fun _ h9 => h9) rfl dX5_takesDigit_70 ?_
          refine lv_if_eq (tgt := 84) hx hb dX5_takesDigit_73 (by decide) (fun c_73_121 => ?_) (fun c_73_122 => ?_)
          · have c_73_121 : (nu : Int32) = 0 := c_73_121
            refine lv_iconst (v := nI 0) hx hb dX5_takesDigit_84 (by decide) ?_
            refine lv_istore (lv' := [(4, .int (nI 0)), (3, .int (bI (wthn d0 (nI 0) (nI 999)))), (2, .int d0), (0, .ref (a 0)), (1, .int d0)]) hx hb dX5_takesDigit_85 hl (by decide) rfl (fun ls hl => ?_)
            refine lv_aload_n hx hb dX5_takesDigit_87 rfl (lv_at hl 3 rfl) ?_
            refine lv_iload hx hb dX5_takesDigit_88 (lv_at hl 0 rfl) ?_
            refine kx_if_eq (tgt := 97) hx hb (by omega) dX5_takesDigit_90 (by decide) (fun c_90_123 => ?_) (fun c => absurd c (by omega))
            refine lv_aload_n hx hb dX5_takesDigit_97 rfl (lv_at hl 3 rfl) ?_
            refine va_get (D := D) (ci := 5) (v := .int nu) (C := RX5) (T := TX5) (N := 12) hx hb hts iX5_takesDigit_5 hown hK hP 0 rfl rfl 8 (by decide) (hts (.fieldLink RX5 134 "HallSightsModel" "number" "I") (List.mem_of_getElem? (i := 1) rfl)) (fun _ h9 => h9) rfl dX5_takesDigit_98 ?_
            refine va_put (D := D) (ci := 5) (v := .int nu) (ty := .int) (C := RX5) (T := TX5) (N := 12) hx hb hts iX5_takesDigit_5 tyX5 tyX5_ok nmX5 hown hK hP hD hS 0 rfl rfl 8 (by decide) (hts (.fieldLink RX5 134 "HallSightsModel" "number" "I") (List.mem_of_getElem? (i := 1) rfl)) (fun _ h9 => h9) rfl (by decide +kernel) rfl rfl (Nat.le_of_ble_eq_true rfl) dX5_takesDigit_101 (fun H locs hP hD hS => ?_)
            have hP : va_P D vwCl (MW a cI z (nI ns) zh (nI nl) tx th pa (nI nrd) nu (nI npt) wy za) H := hP
            have hD : va_D (kA w0) (MW a cI z (nI ns) zh (nI nl) tx th pa (nI nrd) nu (nI npt) wy za) := hD
            refine lv_aload_n hx hb dX5_takesDigit_104 rfl (lv_at hl 3 rfl) ?_
            refine va_get (D := D) (ci := 5) (v := .ref (a 4)) (C := RX5) (T := TX5) (N := 12) hx hb hts iX5_takesDigit_5 hown hK hP 0 rfl rfl 6 (by decide) (hts (.fieldLink RX5 19 "HallSightsModel" "parts" "[I") (List.mem_of_getElem? (i := 3) rfl)) (fun _ h9 => h9) rfl dX5_takesDigit_105 ?_
            refine lv_iconst (v := nI 3) hx hb dX5_takesDigit_108 (by decide) ?_
            refine lv_aload_n hx hb dX5_takesDigit_109 rfl (lv_at hl 3 rfl) ?_
            refine va_get (D := D) (ci := 5) (v := .int (nI nrd)) (C := RX5) (T := TX5) (N := 12) hx hb hts iX5_takesDigit_5 hown hK hP 0 rfl rfl 7 (by decide) (hts (.fieldLink RX5 140 "HallSightsModel" "read" "I") (List.mem_of_getElem? (i := 4) rfl)) (fun _ h9 => h9) rfl dX5_takesDigit_110 ?_
            refine kx_imul hx hb dX5_takesDigit_113 ?_
            refine lv_aload_n hx hb dX5_takesDigit_114 rfl (lv_at hl 3 rfl) ?_
            refine va_get (D := D) (ci := 5) (v := .int (nI npt)) (C := RX5) (T := TX5) (N := 12) hx hb hts iX5_takesDigit_5 hown hK hP 0 rfl rfl 9 (by decide) (hts (.fieldLink RX5 137 "HallSightsModel" "part" "I") (List.mem_of_getElem? (i := 2) rfl)) (fun _ h9 => h9) rfl dX5_takesDigit_115 ?_
            refine kx_iadd hx hb dX5_takesDigit_118 ?_
            refine lv_aload_n hx hb dX5_takesDigit_119 rfl (lv_at hl 3 rfl) ?_
            refine va_get (D := D) (ci := 5) (v := .int nu) (C := RX5) (T := TX5) (N := 12) hx hb hts iX5_takesDigit_5 hown hK hP 0 rfl rfl 8 (by decide) (hts (.fieldLink RX5 134 "HallSightsModel" "number" "I") (List.mem_of_getElem? (i := 1) rfl)) (fun _ h9 => h9) rfl dX5_takesDigit_120 ?_
            refine kx_iast hx hb hK hP hD hS 4 0 rfl rfl (by omega) (by decide) dX5_takesDigit_123 (fun H locs hP hD hS => ?_)
            have hP : va_P D vwCl (MW a cI z (nI ns) zh (nI nl) tx th (upd pa ((3 * nrd) + npt) nu) (nI nrd) nu (nI npt) wy za) H := hP
            have hD : va_D (kA w0) (MW a cI z (nI ns) zh (nI nl) tx th (upd pa ((3 * nrd) + npt) nu) (nI nrd) nu (nI npt) wy za) := hD
            refine lv_iload hx hb dX5_takesDigit_124 (lv_at hl 0 rfl) ?_
            have e_124 : (false : Bool) = (tdB nu npt d0) := by first | rfl | omega | (simp [tdB, tdNu, tdV, tdR, Int32.not_lt, Int32.not_le, c_5_1, c_26_84, Nat.ne_of_gt c_26_84, c_41_87, c_66_115, c_73_121]; done) | (simp [tdB, tdNu, tdV, tdR, Int32.not_lt, Int32.not_le, c_5_1, c_26_84, Nat.ne_of_gt c_26_84, c_41_87, c_66_115, c_73_121]; omega) | (revert c_5_1 c_26_84 c_41_87 c_66_115 c_73_121; simp +contextual [tdB, tdNu, tdV, tdR, Int32.not_lt, Int32.not_le]; done) | (revert c_5_1 c_26_84 c_41_87 c_66_115 c_73_121; simp +contextual [tdB, tdNu, tdV, tdR, Int32.not_lt, Int32.not_le]; omega)
            have ec_pa_125 : ((upd pa ((3 * nrd) + npt) nu) : ZZ) = (upd pa (3 * nrd + npt) (tdNu nu npt d0)) := by first | rfl | omega | (simp [tdB, tdNu, tdV, tdR, Int32.not_lt, Int32.not_le, c_5_1, c_26_84, Nat.ne_of_gt c_26_84, c_41_87, c_66_115, c_73_121]; done) | (simp [tdB, tdNu, tdV, tdR, Int32.not_lt, Int32.not_le, c_5_1, c_26_84, Nat.ne_of_gt c_26_84, c_41_87, c_66_115, c_73_121]; omega) | (revert c_5_1 c_26_84 c_41_87 c_66_115 c_73_121; simp +contextual [tdB, tdNu, tdV, tdR, Int32.not_lt, Int32.not_le]; done) | (revert c_5_1 c_26_84 c_41_87 c_66_115 c_73_121; simp +contextual [tdB, tdNu, tdV, tdR, Int32.not_lt, Int32.not_le]; omega)
            have ec_nu_126 : (nu : Int32) = (tdNu nu npt d0) := by first | rfl | omega | (simp [tdB, tdNu, tdV, tdR, Int32.not_lt, Int32.not_le, c_5_1, c_26_84, Nat.ne_of_gt c_26_84, c_41_87, c_66_115, c_73_121]; done) | (simp [tdB, tdNu, tdV, tdR, Int32.not_lt, Int32.not_le, c_5_1, c_26_84, Nat.ne_of_gt c_26_84, c_41_87, c_66_115, c_73_121]; omega) | (revert c_5_1 c_26_84 c_41_87 c_66_115 c_73_121; simp +contextual [tdB, tdNu, tdV, tdR, Int32.not_lt, Int32.not_le]; done) | (revert c_5_1 c_26_84 c_41_87 c_66_115 c_73_121; simp +contextual [tdB, tdNu, tdV, tdR, Int32.not_lt, Int32.not_le]; omega)
            have ew_127 : (MW a cI z (nI ns) zh (nI nl) tx th (upd pa ((3 * nrd) + npt) nu) (nI nrd) nu (nI npt) wy za : va_W) = (MW a cI z (nI ns) zh (nI nl) tx th (upd pa (3 * nrd + npt) (tdNu nu npt d0)) (nI nrd) (tdNu nu npt d0) (nI npt) wy za) := mw_c rfl rfl rfl rfl rfl rfl ec_pa_125 rfl ec_nu_126 rfl rfl rfl
            rw [ew_127] at hP hD
            subst hw0
            exact kq_zret hx hb hrt hlocks (congrArg bI e_124) hP hD hS dX5_takesDigit_126
          · have c_73_122 : ¬ (nu : Int32) = 0 := c_73_122
            refine lv_iload_n hx hb dX5_takesDigit_76 rfl (lv_at hl 0 rfl) ?_
            refine kx_if_eqb (tgt := 84) hx hb dX5_takesDigit_77 (by decide) (fun c_77_128 => ?_) (fun c_77_129 => ?_)
            · refine lv_iconst (v := nI 0) hx hb dX5_takesDigit_84 (by decide) ?_
              refine lv_istore (lv' := [(4, .int (nI 0)), (3, .int (bI (wthn d0 (nI 0) (nI 999)))), (2, .int d0), (0, .ref (a 0)), (1, .int d0)]) hx hb dX5_takesDigit_85 hl (by decide) rfl (fun ls hl => ?_)
              refine lv_aload_n hx hb dX5_takesDigit_87 rfl (lv_at hl 3 rfl) ?_
              refine lv_iload hx hb dX5_takesDigit_88 (lv_at hl 0 rfl) ?_
              refine kx_if_eq (tgt := 97) hx hb (by omega) dX5_takesDigit_90 (by decide) (fun c_90_130 => ?_) (fun c => absurd c (by omega))
              refine lv_aload_n hx hb dX5_takesDigit_97 rfl (lv_at hl 3 rfl) ?_
              refine va_get (D := D) (ci := 5) (v := .int nu) (C := RX5) (T := TX5) (N := 12) hx hb hts iX5_takesDigit_5 hown hK hP 0 rfl rfl 8 (by decide) (hts (.fieldLink RX5 134 "HallSightsModel" "number" "I") (List.mem_of_getElem? (i := 1) rfl)) (fun _ h9 => h9) rfl dX5_takesDigit_98 ?_
              refine va_put (D := D) (ci := 5) (v := .int nu) (ty := .int) (C := RX5) (T := TX5) (N := 12) hx hb hts iX5_takesDigit_5 tyX5 tyX5_ok nmX5 hown hK hP hD hS 0 rfl rfl 8 (by decide) (hts (.fieldLink RX5 134 "HallSightsModel" "number" "I") (List.mem_of_getElem? (i := 1) rfl)) (fun _ h9 => h9) rfl (by decide +kernel) rfl rfl (Nat.le_of_ble_eq_true rfl) dX5_takesDigit_101 (fun H locs hP hD hS => ?_)
              have hP : va_P D vwCl (MW a cI z (nI ns) zh (nI nl) tx th pa (nI nrd) nu (nI npt) wy za) H := hP
              have hD : va_D (kA w0) (MW a cI z (nI ns) zh (nI nl) tx th pa (nI nrd) nu (nI npt) wy za) := hD
              refine lv_aload_n hx hb dX5_takesDigit_104 rfl (lv_at hl 3 rfl) ?_
              refine va_get (D := D) (ci := 5) (v := .ref (a 4)) (C := RX5) (T := TX5) (N := 12) hx hb hts iX5_takesDigit_5 hown hK hP 0 rfl rfl 6 (by decide) (hts (.fieldLink RX5 19 "HallSightsModel" "parts" "[I") (List.mem_of_getElem? (i := 3) rfl)) (fun _ h9 => h9) rfl dX5_takesDigit_105 ?_
              refine lv_iconst (v := nI 3) hx hb dX5_takesDigit_108 (by decide) ?_
              refine lv_aload_n hx hb dX5_takesDigit_109 rfl (lv_at hl 3 rfl) ?_
              refine va_get (D := D) (ci := 5) (v := .int (nI nrd)) (C := RX5) (T := TX5) (N := 12) hx hb hts iX5_takesDigit_5 hown hK hP 0 rfl rfl 7 (by decide) (hts (.fieldLink RX5 140 "HallSightsModel" "read" "I") (List.mem_of_getElem? (i := 4) rfl)) (fun _ h9 => h9) rfl dX5_takesDigit_110 ?_
              refine kx_imul hx hb dX5_takesDigit_113 ?_
              refine lv_aload_n hx hb dX5_takesDigit_114 rfl (lv_at hl 3 rfl) ?_
              refine va_get (D := D) (ci := 5) (v := .int (nI npt)) (C := RX5) (T := TX5) (N := 12) hx hb hts iX5_takesDigit_5 hown hK hP 0 rfl rfl 9 (by decide) (hts (.fieldLink RX5 137 "HallSightsModel" "part" "I") (List.mem_of_getElem? (i := 2) rfl)) (fun _ h9 => h9) rfl dX5_takesDigit_115 ?_
              refine kx_iadd hx hb dX5_takesDigit_118 ?_
              refine lv_aload_n hx hb dX5_takesDigit_119 rfl (lv_at hl 3 rfl) ?_
              refine va_get (D := D) (ci := 5) (v := .int nu) (C := RX5) (T := TX5) (N := 12) hx hb hts iX5_takesDigit_5 hown hK hP 0 rfl rfl 8 (by decide) (hts (.fieldLink RX5 134 "HallSightsModel" "number" "I") (List.mem_of_getElem? (i := 1) rfl)) (fun _ h9 => h9) rfl dX5_takesDigit_120 ?_
              refine kx_iast hx hb hK hP hD hS 4 0 rfl rfl (by omega) (by decide) dX5_takesDigit_123 (fun H locs hP hD hS => ?_)
              have hP : va_P D vwCl (MW a cI z (nI ns) zh (nI nl) tx th (upd pa ((3 * nrd) + npt) nu) (nI nrd) nu (nI npt) wy za) H := hP
              have hD : va_D (kA w0) (MW a cI z (nI ns) zh (nI nl) tx th (upd pa ((3 * nrd) + npt) nu) (nI nrd) nu (nI npt) wy za) := hD
              refine lv_iload hx hb dX5_takesDigit_124 (lv_at hl 0 rfl) ?_
              have e_131 : (false : Bool) = (tdB nu npt d0) := by first | rfl | omega | (simp [tdB, tdNu, tdV, tdR, Int32.not_lt, Int32.not_le, c_5_1, c_26_84, Nat.ne_of_gt c_26_84, c_41_87, c_66_115, c_73_122, c_77_128]; done) | (simp [tdB, tdNu, tdV, tdR, Int32.not_lt, Int32.not_le, c_5_1, c_26_84, Nat.ne_of_gt c_26_84, c_41_87, c_66_115, c_73_122, c_77_128]; omega) | (revert c_5_1 c_26_84 c_41_87 c_66_115 c_73_122 c_77_128; simp +contextual [tdB, tdNu, tdV, tdR, Int32.not_lt, Int32.not_le]; done) | (revert c_5_1 c_26_84 c_41_87 c_66_115 c_73_122 c_77_128; simp +contextual [tdB, tdNu, tdV, tdR, Int32.not_lt, Int32.not_le]; omega)
              have ec_pa_132 : ((upd pa ((3 * nrd) + npt) nu) : ZZ) = (upd pa (3 * nrd + npt) (tdNu nu npt d0)) := by first | rfl | omega | (simp [tdB, tdNu, tdV, tdR, Int32.not_lt, Int32.not_le, c_5_1, c_26_84, Nat.ne_of_gt c_26_84, c_41_87, c_66_115, c_73_122, c_77_128]; done) | (simp [tdB, tdNu, tdV, tdR, Int32.not_lt, Int32.not_le, c_5_1, c_26_84, Nat.ne_of_gt c_26_84, c_41_87, c_66_115, c_73_122, c_77_128]; omega) | (revert c_5_1 c_26_84 c_41_87 c_66_115 c_73_122 c_77_128; simp +contextual [tdB, tdNu, tdV, tdR, Int32.not_lt, Int32.not_le]; done) | (revert c_5_1 c_26_84 c_41_87 c_66_115 c_73_122 c_77_128; simp +contextual [tdB, tdNu, tdV, tdR, Int32.not_lt, Int32.not_le]; omega)
              have ec_nu_133 : (nu : Int32) = (tdNu nu npt d0) := by first | rfl | omega | (simp [tdB, tdNu, tdV, tdR, Int32.not_lt, Int32.not_le, c_5_1, c_26_84, Nat.ne_of_gt c_26_84, c_41_87, c_66_115, c_73_122, c_77_128]; done) | (simp [tdB, tdNu, tdV, tdR, Int32.not_lt, Int32.not_le, c_5_1, c_26_84, Nat.ne_of_gt c_26_84, c_41_87, c_66_115, c_73_122, c_77_128]; omega) | (revert c_5_1 c_26_84 c_41_87 c_66_115 c_73_122 c_77_128; simp +contextual [tdB, tdNu, tdV, tdR, Int32.not_lt, Int32.not_le]; done) | (revert c_5_1 c_26_84 c_41_87 c_66_115 c_73_122 c_77_128; simp +contextual [tdB, tdNu, tdV, tdR, Int32.not_lt, Int32.not_le]; omega)
              have ew_134 : (MW a cI z (nI ns) zh (nI nl) tx th (upd pa ((3 * nrd) + npt) nu) (nI nrd) nu (nI npt) wy za : va_W) = (MW a cI z (nI ns) zh (nI nl) tx th (upd pa (3 * nrd + npt) (tdNu nu npt d0)) (nI nrd) (tdNu nu npt d0) (nI npt) wy za) := mw_c rfl rfl rfl rfl rfl rfl ec_pa_132 rfl ec_nu_133 rfl rfl rfl
              rw [ew_134] at hP hD
              subst hw0
              exact kq_zret hx hb hrt hlocks (congrArg bI e_131) hP hD hS dX5_takesDigit_126
            · refine lv_iconst (v := nI 1) hx hb dX5_takesDigit_80 (by decide) ?_
              refine lv_goto (tgt := 85) hx hb dX5_takesDigit_81 (by decide) ?_
              refine lv_istore (lv' := [(4, .int (nI 1)), (3, .int (bI (wthn d0 (nI 0) (nI 999)))), (2, .int d0), (0, .ref (a 0)), (1, .int d0)]) hx hb dX5_takesDigit_85 hl (by decide) rfl (fun ls hl => ?_)
              refine lv_aload_n hx hb dX5_takesDigit_87 rfl (lv_at hl 3 rfl) ?_
              refine lv_iload hx hb dX5_takesDigit_88 (lv_at hl 0 rfl) ?_
              refine kx_if_eq (tgt := 97) hx hb (by omega) dX5_takesDigit_90 (by decide) (fun c => absurd c (by omega)) (fun c_90_135 => ?_)
              refine lv_iload_n hx hb dX5_takesDigit_93 rfl (lv_at hl 2 rfl) ?_
              refine lv_goto (tgt := 101) hx hb dX5_takesDigit_94 (by decide) ?_
              refine va_put (D := D) (ci := 5) (v := .int d0) (ty := .int) (C := RX5) (T := TX5) (N := 12) hx hb hts iX5_takesDigit_5 tyX5 tyX5_ok nmX5 hown hK hP hD hS 0 rfl rfl 8 (by decide) (hts (.fieldLink RX5 134 "HallSightsModel" "number" "I") (List.mem_of_getElem? (i := 1) rfl)) (fun _ h9 => h9) rfl (by decide +kernel) rfl rfl (Nat.le_of_ble_eq_true rfl) dX5_takesDigit_101 (fun H locs hP hD hS => ?_)
              have hP : va_P D vwCl (MW a cI z (nI ns) zh (nI nl) tx th pa (nI nrd) d0 (nI npt) wy za) H := hP
              have hD : va_D (kA w0) (MW a cI z (nI ns) zh (nI nl) tx th pa (nI nrd) d0 (nI npt) wy za) := hD
              refine lv_aload_n hx hb dX5_takesDigit_104 rfl (lv_at hl 3 rfl) ?_
              refine va_get (D := D) (ci := 5) (v := .ref (a 4)) (C := RX5) (T := TX5) (N := 12) hx hb hts iX5_takesDigit_5 hown hK hP 0 rfl rfl 6 (by decide) (hts (.fieldLink RX5 19 "HallSightsModel" "parts" "[I") (List.mem_of_getElem? (i := 3) rfl)) (fun _ h9 => h9) rfl dX5_takesDigit_105 ?_
              refine lv_iconst (v := nI 3) hx hb dX5_takesDigit_108 (by decide) ?_
              refine lv_aload_n hx hb dX5_takesDigit_109 rfl (lv_at hl 3 rfl) ?_
              refine va_get (D := D) (ci := 5) (v := .int (nI nrd)) (C := RX5) (T := TX5) (N := 12) hx hb hts iX5_takesDigit_5 hown hK hP 0 rfl rfl 7 (by decide) (hts (.fieldLink RX5 140 "HallSightsModel" "read" "I") (List.mem_of_getElem? (i := 4) rfl)) (fun _ h9 => h9) rfl dX5_takesDigit_110 ?_
              refine kx_imul hx hb dX5_takesDigit_113 ?_
              refine lv_aload_n hx hb dX5_takesDigit_114 rfl (lv_at hl 3 rfl) ?_
              refine va_get (D := D) (ci := 5) (v := .int (nI npt)) (C := RX5) (T := TX5) (N := 12) hx hb hts iX5_takesDigit_5 hown hK hP 0 rfl rfl 9 (by decide) (hts (.fieldLink RX5 137 "HallSightsModel" "part" "I") (List.mem_of_getElem? (i := 2) rfl)) (fun _ h9 => h9) rfl dX5_takesDigit_115 ?_
              refine kx_iadd hx hb dX5_takesDigit_118 ?_
              refine lv_aload_n hx hb dX5_takesDigit_119 rfl (lv_at hl 3 rfl) ?_
              refine va_get (D := D) (ci := 5) (v := .int d0) (C := RX5) (T := TX5) (N := 12) hx hb hts iX5_takesDigit_5 hown hK hP 0 rfl rfl 8 (by decide) (hts (.fieldLink RX5 134 "HallSightsModel" "number" "I") (List.mem_of_getElem? (i := 1) rfl)) (fun _ h9 => h9) rfl dX5_takesDigit_120 ?_
              refine kx_iast hx hb hK hP hD hS 4 0 rfl rfl (by omega) (by decide) dX5_takesDigit_123 (fun H locs hP hD hS => ?_)
              have hP : va_P D vwCl (MW a cI z (nI ns) zh (nI nl) tx th (upd pa ((3 * nrd) + npt) d0) (nI nrd) d0 (nI npt) wy za) H := hP
              have hD : va_D (kA w0) (MW a cI z (nI ns) zh (nI nl) tx th (upd pa ((3 * nrd) + npt) d0) (nI nrd) d0 (nI npt) wy za) := hD
              refine lv_iload hx hb dX5_takesDigit_124 (lv_at hl 0 rfl) ?_
              have e_136 : (true : Bool) = (tdB nu npt d0) := by first | rfl | omega | (simp [tdB, tdNu, tdV, tdR, Int32.not_lt, Int32.not_le, c_5_1, c_26_84, Nat.ne_of_gt c_26_84, c_41_87, c_66_115, c_73_122, c_77_129]; done) | (simp [tdB, tdNu, tdV, tdR, Int32.not_lt, Int32.not_le, c_5_1, c_26_84, Nat.ne_of_gt c_26_84, c_41_87, c_66_115, c_73_122, c_77_129]; omega) | (revert c_5_1 c_26_84 c_41_87 c_66_115 c_73_122 c_77_129; simp +contextual [tdB, tdNu, tdV, tdR, Int32.not_lt, Int32.not_le]; done) | (revert c_5_1 c_26_84 c_41_87 c_66_115 c_73_122 c_77_129; simp +contextual [tdB, tdNu, tdV, tdR, Int32.not_lt, Int32.not_le]; omega)
              have ec_pa_137 : ((upd pa ((3 * nrd) + npt) d0) : ZZ) = (upd pa (3 * nrd + npt) (tdNu nu npt d0)) := by first | rfl | omega | (simp [tdB, tdNu, tdV, tdR, Int32.not_lt, Int32.not_le, c_5_1, c_26_84, Nat.ne_of_gt c_26_84, c_41_87, c_66_115, c_73_122, c_77_129]; done) | (simp [tdB, tdNu, tdV, tdR, Int32.not_lt, Int32.not_le, c_5_1, c_26_84, Nat.ne_of_gt c_26_84, c_41_87, c_66_115, c_73_122, c_77_129]; omega) | (revert c_5_1 c_26_84 c_41_87 c_66_115 c_73_122 c_77_129; simp +contextual [tdB, tdNu, tdV, tdR, Int32.not_lt, Int32.not_le]; done) | (revert c_5_1 c_26_84 c_41_87 c_66_115 c_73_122 c_77_129; simp +contextual [tdB, tdNu, tdV, tdR, Int32.not_lt, Int32.not_le]; omega)
              have ec_nu_138 : (d0 : Int32) = (tdNu nu npt d0) := by first | rfl | omega | (simp [tdB, tdNu, tdV, tdR, Int32.not_lt, Int32.not_le, c_5_1, c_26_84, Nat.ne_of_gt c_26_84, c_41_87, c_66_115, c_73_122, c_77_129]; done) | (simp [tdB, tdNu, tdV, tdR, Int32.not_lt, Int32.not_le, c_5_1, c_26_84, Nat.ne_of_gt c_26_84, c_41_87, c_66_115, c_73_122, c_77_129]; omega) | (revert c_5_1 c_26_84 c_41_87 c_66_115 c_73_122 c_77_129; simp +contextual [tdB, tdNu, tdV, tdR, Int32.not_lt, Int32.not_le]; done) | (revert c_5_1 c_26_84 c_41_87 c_66_115 c_73_122 c_77_129; simp +contextual [tdB, tdNu, tdV, tdR, Int32.not_lt, Int32.not_le]; omega)
              have ew_139 : (MW a cI z (nI ns) zh (nI nl) tx th (upd pa ((3 * nrd) + npt) d0) (nI nrd) d0 (nI npt) wy za : va_W) = (MW a cI z (nI ns) zh (nI nl) tx th (upd pa (3 * nrd + npt) (tdNu nu npt d0)) (nI nrd) (tdNu nu npt d0) (nI npt) wy za) := mw_c rfl rfl rfl rfl rfl rfl ec_pa_137 rfl ec_nu_138 rfl rfl rfl
              rw [ew_139] at hP hD
              subst hw0
              exact kq_zret hx hb hrt hlocks (congrArg bI e_136) hP hD hS dX5_takesDigit_126
    · refine lv_iload_n hx hb dX5_takesDigit_29 rfl (lv_at hl 0 rfl) ?_
      refine kr_S (As := [.int d0]) (rest := []) (own := RX5) ⟨hx, hb, hml, hown, hts⟩ (c_X5_isFar l D cI cC cH cL  d0 ) (va_cwS 1 hts gX5_takesDigit_X5_isFar rfl rfl rfl k_X5_isFarS ⟨Nat.le_of_ble_eq_true rfl, Nat.le_of_ble_eq_true rfl⟩) (hP.sub (ws' := []) [] rfl) hK rfl hl.1 rfl (Nat.le_of_ble_eq_true rfl) dX5_takesDigit_30 ⟨Nat.le_of_ble_eq_true rfl, Nat.le_of_ble_eq_true rfl⟩ ?_
      refine lv_goto (tgt := 58) hx hb dX5_takesDigit_33 (by decide) ?_
      refine lv_istore_n (lv' := [(3, .int (bI (wthn d0 (nI 1) (nI 999)))), (2, .int d0), (0, .ref (a 0)), (1, .int d0)]) hx hb dX5_takesDigit_58 rfl hl (by decide) rfl (fun ls hl => ?_)
      refine lv_iload_n hx hb dX5_takesDigit_59 rfl (lv_at hl 3 rfl) ?_
      refine lv_iconst (v := nI 0) hx hb dX5_takesDigit_60 (by decide) ?_
      refine lv_bipush (v := nI 9) hx hb dX5_takesDigit_61 (by decide) ?_
      refine kr_S (As := [.int d0, .int (nI 0), .int (nI 9)]) (rest := []) (own := RX5) ⟨hx, hb, hml, hown, hts⟩ (c_X5_within l D cI cC cH cL  d0 (nI 0) (nI 9) ) (va_cwS 3 hts gX5_takesDigit_X5_within rfl rfl rfl k_X5_withinS ⟨Nat.le_of_ble_eq_true rfl, Nat.le_of_ble_eq_true rfl⟩) (hP.sub (ws' := []) [] rfl) hK rfl hl.1 rfl (Nat.le_of_ble_eq_true rfl) dX5_takesDigit_63 ⟨Nat.le_of_ble_eq_true rfl, Nat.le_of_ble_eq_true rfl⟩ ?_
      refine kx_if_eqb (tgt := 84) hx hb dX5_takesDigit_66 (by decide) (fun c_66_140 => ?_) (fun c_66_141 => ?_)
      · refine lv_iconst (v := nI 0) hx hb dX5_takesDigit_84 (by decide) ?_
        refine lv_istore (lv' := [(4, .int (nI 0)), (3, .int (bI (wthn d0 (nI 1) (nI 999)))), (2, .int d0), (0, .ref (a 0)), (1, .int d0)]) hx hb dX5_takesDigit_85 hl (by decide) rfl (fun ls hl => ?_)
        refine lv_aload_n hx hb dX5_takesDigit_87 rfl (lv_at hl 3 rfl) ?_
        refine lv_iload hx hb dX5_takesDigit_88 (lv_at hl 0 rfl) ?_
        refine kx_if_eq (tgt := 97) hx hb (by omega) dX5_takesDigit_90 (by decide) (fun c_90_142 => ?_) (fun c => absurd c (by omega))
        refine lv_aload_n hx hb dX5_takesDigit_97 rfl (lv_at hl 3 rfl) ?_
        refine va_get (D := D) (ci := 5) (v := .int nu) (C := RX5) (T := TX5) (N := 12) hx hb hts iX5_takesDigit_5 hown hK hP 0 rfl rfl 8 (by decide) (hts (.fieldLink RX5 134 "HallSightsModel" "number" "I") (List.mem_of_getElem? (i := 1) rfl)) (fun _ h9 => h9) rfl dX5_takesDigit_98 ?_
        refine va_put (D := D) (ci := 5) (v := .int nu) (ty := .int) (C := RX5) (T := TX5) (N := 12) hx hb hts iX5_takesDigit_5 tyX5 tyX5_ok nmX5 hown hK hP hD hS 0 rfl rfl 8 (by decide) (hts (.fieldLink RX5 134 "HallSightsModel" "number" "I") (List.mem_of_getElem? (i := 1) rfl)) (fun _ h9 => h9) rfl (by decide +kernel) rfl rfl (Nat.le_of_ble_eq_true rfl) dX5_takesDigit_101 (fun H locs hP hD hS => ?_)
        have hP : va_P D vwCl (MW a cI z (nI ns) zh (nI nl) tx th pa (nI nrd) nu (nI npt) wy za) H := hP
        have hD : va_D (kA w0) (MW a cI z (nI ns) zh (nI nl) tx th pa (nI nrd) nu (nI npt) wy za) := hD
        refine lv_aload_n hx hb dX5_takesDigit_104 rfl (lv_at hl 3 rfl) ?_
        refine va_get (D := D) (ci := 5) (v := .ref (a 4)) (C := RX5) (T := TX5) (N := 12) hx hb hts iX5_takesDigit_5 hown hK hP 0 rfl rfl 6 (by decide) (hts (.fieldLink RX5 19 "HallSightsModel" "parts" "[I") (List.mem_of_getElem? (i := 3) rfl)) (fun _ h9 => h9) rfl dX5_takesDigit_105 ?_
        refine lv_iconst (v := nI 3) hx hb dX5_takesDigit_108 (by decide) ?_
        refine lv_aload_n hx hb dX5_takesDigit_109 rfl (lv_at hl 3 rfl) ?_
        refine va_get (D := D) (ci := 5) (v := .int (nI nrd)) (C := RX5) (T := TX5) (N := 12) hx hb hts iX5_takesDigit_5 hown hK hP 0 rfl rfl 7 (by decide) (hts (.fieldLink RX5 140 "HallSightsModel" "read" "I") (List.mem_of_getElem? (i := 4) rfl)) (fun _ h9 => h9) rfl dX5_takesDigit_110 ?_
        refine kx_imul hx hb dX5_takesDigit_113 ?_
        refine lv_aload_n hx hb dX5_takesDigit_114 rfl (lv_at hl 3 rfl) ?_
        refine va_get (D := D) (ci := 5) (v := .int (nI npt)) (C := RX5) (T := TX5) (N := 12) hx hb hts iX5_takesDigit_5 hown hK hP 0 rfl rfl 9 (by decide) (hts (.fieldLink RX5 137 "HallSightsModel" "part" "I") (List.mem_of_getElem? (i := 2) rfl)) (fun _ h9 => h9) rfl dX5_takesDigit_115 ?_
        refine kx_iadd hx hb dX5_takesDigit_118 ?_
        refine lv_aload_n hx hb dX5_takesDigit_119 rfl (lv_at hl 3 rfl) ?_
        refine va_get (D := D) (ci := 5) (v := .int nu) (C := RX5) (T := TX5) (N := 12) hx hb hts iX5_takesDigit_5 hown hK hP 0 rfl rfl 8 (by decide) (hts (.fieldLink RX5 134 "HallSightsModel" "number" "I") (List.mem_of_getElem? (i := 1) rfl)) (fun _ h9 => h9) rfl dX5_takesDigit_120 ?_
        refine kx_iast hx hb hK hP hD hS 4 0 rfl rfl (by omega) (by decide) dX5_takesDigit_123 (fun H locs hP hD hS => ?_)
        have hP : va_P D vwCl (MW a cI z (nI ns) zh (nI nl) tx th (upd pa ((3 * nrd) + npt) nu) (nI nrd) nu (nI npt) wy za) H := hP
        have hD : va_D (kA w0) (MW a cI z (nI ns) zh (nI nl) tx th (upd pa ((3 * nrd) + npt) nu) (nI nrd) nu (nI npt) wy za) := hD
        refine lv_iload hx hb dX5_takesDigit_124 (lv_at hl 0 rfl) ?_
        have e_143 : (false : Bool) = (tdB nu npt d0) := by first | rfl | omega | (simp [tdB, tdNu, tdV, tdR, Int32.not_lt, Int32.not_le, c_5_1, c_26_85, c_66_140]; done) | (simp [tdB, tdNu, tdV, tdR, Int32.not_lt, Int32.not_le, c_5_1, c_26_85, c_66_140]; omega) | (revert c_5_1 c_26_85 c_66_140; simp +contextual [tdB, tdNu, tdV, tdR, Int32.not_lt, Int32.not_le]; done) | (revert c_5_1 c_26_85 c_66_140; simp +contextual [tdB, tdNu, tdV, tdR, Int32.not_lt, Int32.not_le]; omega)
        have ec_pa_144 : ((upd pa ((3 * nrd) + npt) nu) : ZZ) = (upd pa (3 * nrd + npt) (tdNu nu npt d0)) := by first | rfl | omega | (simp [tdB, tdNu, tdV, tdR, Int32.not_lt, Int32.not_le, c_5_1, c_26_85, c_66_140]; done) | (simp [tdB, tdNu, tdV, tdR, Int32.not_lt, Int32.not_le, c_5_1, c_26_85, c_66_140]; omega) | (revert c_5_1 c_26_85 c_66_140; simp +contextual [tdB, tdNu, tdV, tdR, Int32.not_lt, Int32.not_le]; done) | (revert c_5_1 c_26_85 c_66_140; simp +contextual [tdB, tdNu, tdV, tdR, Int32.not_lt, Int32.not_le]; omega)
        have ec_nu_145 : (nu : Int32) = (tdNu nu npt d0) := by first | rfl | omega | (simp [tdB, tdNu, tdV, tdR, Int32.not_lt, Int32.not_le, c_5_1, c_26_85, c_66_140]; done) | (simp [tdB, tdNu, tdV, tdR, Int32.not_lt, Int32.not_le, c_5_1, c_26_85, c_66_140]; omega) | (revert c_5_1 c_26_85 c_66_140; simp +contextual [tdB, tdNu, tdV, tdR, Int32.not_lt, Int32.not_le]; done) | (revert c_5_1 c_26_85 c_66_140; simp +contextual [tdB, tdNu, tdV, tdR, Int32.not_lt, Int32.not_le]; omega)
        have ew_146 : (MW a cI z (nI ns) zh (nI nl) tx th (upd pa ((3 * nrd) + npt) nu) (nI nrd) nu (nI npt) wy za : va_W) = (MW a cI z (nI ns) zh (nI nl) tx th (upd pa (3 * nrd + npt) (tdNu nu npt d0)) (nI nrd) (tdNu nu npt d0) (nI npt) wy za) := mw_c rfl rfl rfl rfl rfl rfl ec_pa_144 rfl ec_nu_145 rfl rfl rfl
        rw [ew_146] at hP hD
        subst hw0
        exact kq_zret hx hb hrt hlocks (congrArg bI e_143) hP hD hS dX5_takesDigit_126
      · refine lv_aload_n hx hb dX5_takesDigit_69 rfl (lv_at hl 2 rfl) ?_
        refine va_get (D := D) (ci := 5) (v := .int nu) (C := RX5) (T := TX5) (N := 12) hx hb hts iX5_takesDigit_5 hown hK hP 0 rfl rfl 8 (by decide) (hts (.fieldLink RX5 134 "HallSightsModel" "number" "I") (List.mem_of_getElem? (i := 1) rfl)) (fun _ h9 => h9) rfl dX5_takesDigit_70 ?_
        refine lv_if_eq (tgt := 84) hx hb dX5_takesDigit_73 (by decide) (fun c_73_147 => ?_) (fun c_73_148 => ?_)
        · have c_73_147 : (nu : Int32) = 0 := c_73_147
          refine lv_iconst (v := nI 0) hx hb dX5_takesDigit_84 (by decide) ?_
          refine lv_istore (lv' := [(4, .int (nI 0)), (3, .int (bI (wthn d0 (nI 1) (nI 999)))), (2, .int d0), (0, .ref (a 0)), (1, .int d0)]) hx hb dX5_takesDigit_85 hl (by decide) rfl (fun ls hl => ?_)
          refine lv_aload_n hx hb dX5_takesDigit_87 rfl (lv_at hl 3 rfl) ?_
          refine lv_iload hx hb dX5_takesDigit_88 (lv_at hl 0 rfl) ?_
          refine kx_if_eq (tgt := 97) hx hb (by omega) dX5_takesDigit_90 (by decide) (fun c_90_149 => ?_) (fun c => absurd c (by omega))
          refine lv_aload_n hx hb dX5_takesDigit_97 rfl (lv_at hl 3 rfl) ?_
          refine va_get (D := D) (ci := 5) (v := .int nu) (C := RX5) (T := TX5) (N := 12) hx hb hts iX5_takesDigit_5 hown hK hP 0 rfl rfl 8 (by decide) (hts (.fieldLink RX5 134 "HallSightsModel" "number" "I") (List.mem_of_getElem? (i := 1) rfl)) (fun _ h9 => h9) rfl dX5_takesDigit_98 ?_
          refine va_put (D := D) (ci := 5) (v := .int nu) (ty := .int) (C := RX5) (T := TX5) (N := 12) hx hb hts iX5_takesDigit_5 tyX5 tyX5_ok nmX5 hown hK hP hD hS 0 rfl rfl 8 (by decide) (hts (.fieldLink RX5 134 "HallSightsModel" "number" "I") (List.mem_of_getElem? (i := 1) rfl)) (fun _ h9 => h9) rfl (by decide +kernel) rfl rfl (Nat.le_of_ble_eq_true rfl) dX5_takesDigit_101 (fun H locs hP hD hS => ?_)
          have hP : va_P D vwCl (MW a cI z (nI ns) zh (nI nl) tx th pa (nI nrd) nu (nI npt) wy za) H := hP
          have hD : va_D (kA w0) (MW a cI z (nI ns) zh (nI nl) tx th pa (nI nrd) nu (nI npt) wy za) := hD
          refine lv_aload_n hx hb dX5_takesDigit_104 rfl (lv_at hl 3 rfl) ?_
          refine va_get (D := D) (ci := 5) (v := .ref (a 4)) (C := RX5) (T := TX5) (N := 12) hx hb hts iX5_takesDigit_5 hown hK hP 0 rfl rfl 6 (by decide) (hts (.fieldLink RX5 19 "HallSightsModel" "parts" "[I") (List.mem_of_getElem? (i := 3) rfl)) (fun _ h9 => h9) rfl dX5_takesDigit_105 ?_
          refine lv_iconst (v := nI 3) hx hb dX5_takesDigit_108 (by decide) ?_
          refine lv_aload_n hx hb dX5_takesDigit_109 rfl (lv_at hl 3 rfl) ?_
          refine va_get (D := D) (ci := 5) (v := .int (nI nrd)) (C := RX5) (T := TX5) (N := 12) hx hb hts iX5_takesDigit_5 hown hK hP 0 rfl rfl 7 (by decide) (hts (.fieldLink RX5 140 "HallSightsModel" "read" "I") (List.mem_of_getElem? (i := 4) rfl)) (fun _ h9 => h9) rfl dX5_takesDigit_110 ?_
          refine kx_imul hx hb dX5_takesDigit_113 ?_
          refine lv_aload_n hx hb dX5_takesDigit_114 rfl (lv_at hl 3 rfl) ?_
          refine va_get (D := D) (ci := 5) (v := .int (nI npt)) (C := RX5) (T := TX5) (N := 12) hx hb hts iX5_takesDigit_5 hown hK hP 0 rfl rfl 9 (by decide) (hts (.fieldLink RX5 137 "HallSightsModel" "part" "I") (List.mem_of_getElem? (i := 2) rfl)) (fun _ h9 => h9) rfl dX5_takesDigit_115 ?_
          refine kx_iadd hx hb dX5_takesDigit_118 ?_
          refine lv_aload_n hx hb dX5_takesDigit_119 rfl (lv_at hl 3 rfl) ?_
          refine va_get (D := D) (ci := 5) (v := .int nu) (C := RX5) (T := TX5) (N := 12) hx hb hts iX5_takesDigit_5 hown hK hP 0 rfl rfl 8 (by decide) (hts (.fieldLink RX5 134 "HallSightsModel" "number" "I") (List.mem_of_getElem? (i := 1) rfl)) (fun _ h9 => h9) rfl dX5_takesDigit_120 ?_
          refine kx_iast hx hb hK hP hD hS 4 0 rfl rfl (by omega) (by decide) dX5_takesDigit_123 (fun H locs hP hD hS => ?_)
          have hP : va_P D vwCl (MW a cI z (nI ns) zh (nI nl) tx th (upd pa ((3 * nrd) + npt) nu) (nI nrd) nu (nI npt) wy za) H := hP
          have hD : va_D (kA w0) (MW a cI z (nI ns) zh (nI nl) tx th (upd pa ((3 * nrd) + npt) nu) (nI nrd) nu (nI npt) wy za) := hD
          refine lv_iload hx hb dX5_takesDigit_124 (lv_at hl 0 rfl) ?_
          have e_150 : (false : Bool) = (tdB nu npt d0) := by first | rfl | omega | (simp [tdB, tdNu, tdV, tdR, Int32.not_lt, Int32.not_le, c_5_1, c_26_85, c_66_141, c_73_147]; done) | (simp [tdB, tdNu, tdV, tdR, Int32.not_lt, Int32.not_le, c_5_1, c_26_85, c_66_141, c_73_147]; omega) | (revert c_5_1 c_26_85 c_66_141 c_73_147; simp +contextual [tdB, tdNu, tdV, tdR, Int32.not_lt, Int32.not_le]; done) | (revert c_5_1 c_26_85 c_66_141 c_73_147; simp +contextual [tdB, tdNu, tdV, tdR, Int32.not_lt, Int32.not_le]; omega)
          have ec_pa_151 : ((upd pa ((3 * nrd) + npt) nu) : ZZ) = (upd pa (3 * nrd + npt) (tdNu nu npt d0)) := by first | rfl | omega | (simp [tdB, tdNu, tdV, tdR, Int32.not_lt, Int32.not_le, c_5_1, c_26_85, c_66_141, c_73_147]; done) | (simp [tdB, tdNu, tdV, tdR, Int32.not_lt, Int32.not_le, c_5_1, c_26_85, c_66_141, c_73_147]; omega) | (revert c_5_1 c_26_85 c_66_141 c_73_147; simp +contextual [tdB, tdNu, tdV, tdR, Int32.not_lt, Int32.not_le]; done) | (revert c_5_1 c_26_85 c_66_141 c_73_147; simp +contextual [tdB, tdNu, tdV, tdR, Int32.not_lt, Int32.not_le]; omega)
          have ec_nu_152 : (nu : Int32) = (tdNu nu npt d0) := by first | rfl | omega | (simp [tdB, tdNu, tdV, tdR, Int32.not_lt, Int32.not_le, c_5_1, c_26_85, c_66_141, c_73_147]; done) | (simp [tdB, tdNu, tdV, tdR, Int32.not_lt, Int32.not_le, c_5_1, c_26_85, c_66_141, c_73_147]; omega) | (revert c_5_1 c_26_85 c_66_141 c_73_147; simp +contextual [tdB, tdNu, tdV, tdR, Int32.not_lt, Int32.not_le]; done) | (revert c_5_1 c_26_85 c_66_141 c_73_147; simp +contextual [tdB, tdNu, tdV, tdR, Int32.not_lt, Int32.not_le]; omega)
          have ew_153 : (MW a cI z (nI ns) zh (nI nl) tx th (upd pa ((3 * nrd) + npt) nu) (nI nrd) nu (nI npt) wy za : va_W) = (MW a cI z (nI ns) zh (nI nl) tx th (upd pa (3 * nrd + npt) (tdNu nu npt d0)) (nI nrd) (tdNu nu npt d0) (nI npt) wy za) := mw_c rfl rfl rfl rfl rfl rfl ec_pa_151 rfl ec_nu_152 rfl rfl rfl
          rw [ew_153] at hP hD
          subst hw0
          exact kq_zret hx hb hrt hlocks (congrArg bI e_150) hP hD hS dX5_takesDigit_126
        · have c_73_148 : ¬ (nu : Int32) = 0 := c_73_148
          refine lv_iload_n hx hb dX5_takesDigit_76 rfl (lv_at hl 0 rfl) ?_
          refine kx_if_eqb (tgt := 84) hx hb dX5_takesDigit_77 (by decide) (fun c_77_154 => ?_) (fun c_77_155 => ?_)
          · refine lv_iconst (v := nI 0) hx hb dX5_takesDigit_84 (by decide) ?_
            refine lv_istore (lv' := [(4, .int (nI 0)), (3, .int (bI (wthn d0 (nI 1) (nI 999)))), (2, .int d0), (0, .ref (a 0)), (1, .int d0)]) hx hb dX5_takesDigit_85 hl (by decide) rfl (fun ls hl => ?_)
            refine lv_aload_n hx hb dX5_takesDigit_87 rfl (lv_at hl 3 rfl) ?_
            refine lv_iload hx hb dX5_takesDigit_88 (lv_at hl 0 rfl) ?_
            refine kx_if_eq (tgt := 97) hx hb (by omega) dX5_takesDigit_90 (by decide) (fun c_90_156 => ?_) (fun c => absurd c (by omega))
            refine lv_aload_n hx hb dX5_takesDigit_97 rfl (lv_at hl 3 rfl) ?_
            refine va_get (D := D) (ci := 5) (v := .int nu) (C := RX5) (T := TX5) (N := 12) hx hb hts iX5_takesDigit_5 hown hK hP 0 rfl rfl 8 (by decide) (hts (.fieldLink RX5 134 "HallSightsModel" "number" "I") (List.mem_of_getElem? (i := 1) rfl)) (fun _ h9 => h9) rfl dX5_takesDigit_98 ?_
            refine va_put (D := D) (ci := 5) (v := .int nu) (ty := .int) (C := RX5) (T := TX5) (N := 12) hx hb hts iX5_takesDigit_5 tyX5 tyX5_ok nmX5 hown hK hP hD hS 0 rfl rfl 8 (by decide) (hts (.fieldLink RX5 134 "HallSightsModel" "number" "I") (List.mem_of_getElem? (i := 1) rfl)) (fun _ h9 => h9) rfl (by decide +kernel) rfl rfl (Nat.le_of_ble_eq_true rfl) dX5_takesDigit_101 (fun H locs hP hD hS => ?_)
            have hP : va_P D vwCl (MW a cI z (nI ns) zh (nI nl) tx th pa (nI nrd) nu (nI npt) wy za) H := hP
            have hD : va_D (kA w0) (MW a cI z (nI ns) zh (nI nl) tx th pa (nI nrd) nu (nI npt) wy za) := hD
            refine lv_aload_n hx hb dX5_takesDigit_104 rfl (lv_at hl 3 rfl) ?_
            refine va_get (D := D) (ci := 5) (v := .ref (a 4)) (C := RX5) (T := TX5) (N := 12) hx hb hts iX5_takesDigit_5 hown hK hP 0 rfl rfl 6 (by decide) (hts (.fieldLink RX5 19 "HallSightsModel" "parts" "[I") (List.mem_of_getElem? (i := 3) rfl)) (fun _ h9 => h9) rfl dX5_takesDigit_105 ?_
            refine lv_iconst (v := nI 3) hx hb dX5_takesDigit_108 (by decide) ?_
            refine lv_aload_n hx hb dX5_takesDigit_109 rfl (lv_at hl 3 rfl) ?_
            refine va_get (D := D) (ci := 5) (v := .int (nI nrd)) (C := RX5) (T := TX5) (N := 12) hx hb hts iX5_takesDigit_5 hown hK hP 0 rfl rfl 7 (by decide) (hts (.fieldLink RX5 140 "HallSightsModel" "read" "I") (List.mem_of_getElem? (i := 4) rfl)) (fun _ h9 => h9) rfl dX5_takesDigit_110 ?_
            refine kx_imul hx hb dX5_takesDigit_113 ?_
            refine lv_aload_n hx hb dX5_takesDigit_114 rfl (lv_at hl 3 rfl) ?_
            refine va_get (D := D) (ci := 5) (v := .int (nI npt)) (C := RX5) (T := TX5) (N := 12) hx hb hts iX5_takesDigit_5 hown hK hP 0 rfl rfl 9 (by decide) (hts (.fieldLink RX5 137 "HallSightsModel" "part" "I") (List.mem_of_getElem? (i := 2) rfl)) (fun _ h9 => h9) rfl dX5_takesDigit_115 ?_
            refine kx_iadd hx hb dX5_takesDigit_118 ?_
            refine lv_aload_n hx hb dX5_takesDigit_119 rfl (lv_at hl 3 rfl) ?_
            refine va_get (D := D) (ci := 5) (v := .int nu) (C := RX5) (T := TX5) (N := 12) hx hb hts iX5_takesDigit_5 hown hK hP 0 rfl rfl 8 (by decide) (hts (.fieldLink RX5 134 "HallSightsModel" "number" "I") (List.mem_of_getElem? (i := 1) rfl)) (fun _ h9 => h9) rfl dX5_takesDigit_120 ?_
            refine kx_iast hx hb hK hP hD hS 4 0 rfl rfl (by omega) (by decide) dX5_takesDigit_123 (fun H locs hP hD hS => ?_)
            have hP : va_P D vwCl (MW a cI z (nI ns) zh (nI nl) tx th (upd pa ((3 * nrd) + npt) nu) (nI nrd) nu (nI npt) wy za) H := hP
            have hD : va_D (kA w0) (MW a cI z (nI ns) zh (nI nl) tx th (upd pa ((3 * nrd) + npt) nu) (nI nrd) nu (nI npt) wy za) := hD
            refine lv_iload hx hb dX5_takesDigit_124 (lv_at hl 0 rfl) ?_
            have e_157 : (false : Bool) = (tdB nu npt d0) := by first | rfl | omega | (simp [tdB, tdNu, tdV, tdR, Int32.not_lt, Int32.not_le, c_5_1, c_26_85, c_66_141, c_73_148, c_77_154]; done) | (simp [tdB, tdNu, tdV, tdR, Int32.not_lt, Int32.not_le, c_5_1, c_26_85, c_66_141, c_73_148, c_77_154]; omega) | (revert c_5_1 c_26_85 c_66_141 c_73_148 c_77_154; simp +contextual [tdB, tdNu, tdV, tdR, Int32.not_lt, Int32.not_le]; done) | (revert c_5_1 c_26_85 c_66_141 c_73_148 c_77_154; simp +contextual [tdB, tdNu, tdV, tdR, Int32.not_lt, Int32.not_le]; omega)
            have ec_pa_158 : ((upd pa ((3 * nrd) + npt) nu) : ZZ) = (upd pa (3 * nrd + npt) (tdNu nu npt d0)) := by first | rfl | omega | (simp [tdB, tdNu, tdV, tdR, Int32.not_lt, Int32.not_le, c_5_1, c_26_85, c_66_141, c_73_148, c_77_154]; done) | (simp [tdB, tdNu, tdV, tdR, Int32.not_lt, Int32.not_le, c_5_1, c_26_85, c_66_141, c_73_148, c_77_154]; omega) | (revert c_5_1 c_26_85 c_66_141 c_73_148 c_77_154; simp +contextual [tdB, tdNu, tdV, tdR, Int32.not_lt, Int32.not_le]; done) | (revert c_5_1 c_26_85 c_66_141 c_73_148 c_77_154; simp +contextual [tdB, tdNu, tdV, tdR, Int32.not_lt, Int32.not_le]; omega)
            have ec_nu_159 : (nu : Int32) = (tdNu nu npt d0) := by first | rfl | omega | (simp [tdB, tdNu, tdV, tdR, Int32.not_lt, Int32.not_le, c_5_1, c_26_85, c_66_141, c_73_148, c_77_154]; done) | (simp [tdB, tdNu, tdV, tdR, Int32.not_lt, Int32.not_le, c_5_1, c_26_85, c_66_141, c_73_148, c_77_154]; omega) | (revert c_5_1 c_26_85 c_66_141 c_73_148 c_77_154; simp +contextual [tdB, tdNu, tdV, tdR, Int32.not_lt, Int32.not_le]; done) | (revert c_5_1 c_26_85 c_66_141 c_73_148 c_77_154; simp +contextual [tdB, tdNu, tdV, tdR, Int32.not_lt, Int32.not_le]; omega)
            have ew_160 : (MW a cI z (nI ns) zh (nI nl) tx th (upd pa ((3 * nrd) + npt) nu) (nI nrd) nu (nI npt) wy za : va_W) = (MW a cI z (nI ns) zh (nI nl) tx th (upd pa (3 * nrd + npt) (tdNu nu npt d0)) (nI nrd) (tdNu nu npt d0) (nI npt) wy za) := mw_c rfl rfl rfl rfl rfl rfl ec_pa_158 rfl ec_nu_159 rfl rfl rfl
            rw [ew_160] at hP hD
            subst hw0
            exact kq_zret hx hb hrt hlocks (congrArg bI e_157) hP hD hS dX5_takesDigit_126
          · refine lv_iconst (v := nI 1) hx hb dX5_takesDigit_80 (by decide) ?_
            refine lv_goto (tgt := 85) hx hb dX5_takesDigit_81 (by decide) ?_
            refine lv_istore (lv' := [(4, .int (nI 1)), (3, .int (bI (wthn d0 (nI 1) (nI 999)))), (2, .int d0), (0, .ref (a 0)), (1, .int d0)]) hx hb dX5_takesDigit_85 hl (by decide) rfl (fun ls hl => ?_)
            refine lv_aload_n hx hb dX5_takesDigit_87 rfl (lv_at hl 3 rfl) ?_
            refine lv_iload hx hb dX5_takesDigit_88 (lv_at hl 0 rfl) ?_
            refine kx_if_eq (tgt := 97) hx hb (by omega) dX5_takesDigit_90 (by decide) (fun c => absurd c (by omega)) (fun c_90_161 => ?_)
            refine lv_iload_n hx hb dX5_takesDigit_93 rfl (lv_at hl 2 rfl) ?_
            refine lv_goto (tgt := 101) hx hb dX5_takesDigit_94 (by decide) ?_
            refine va_put (D := D) (ci := 5) (v := .int d0) (ty := .int) (C := RX5) (T := TX5) (N := 12) hx hb hts iX5_takesDigit_5 tyX5 tyX5_ok nmX5 hown hK hP hD hS 0 rfl rfl 8 (by decide) (hts (.fieldLink RX5 134 "HallSightsModel" "number" "I") (List.mem_of_getElem? (i := 1) rfl)) (fun _ h9 => h9) rfl (by decide +kernel) rfl rfl (Nat.le_of_ble_eq_true rfl) dX5_takesDigit_101 (fun H locs hP hD hS => ?_)
            have hP : va_P D vwCl (MW a cI z (nI ns) zh (nI nl) tx th pa (nI nrd) d0 (nI npt) wy za) H := hP
            have hD : va_D (kA w0) (MW a cI z (nI ns) zh (nI nl) tx th pa (nI nrd) d0 (nI npt) wy za) := hD
            refine lv_aload_n hx hb dX5_takesDigit_104 rfl (lv_at hl 3 rfl) ?_
            refine va_get (D := D) (ci := 5) (v := .ref (a 4)) (C := RX5) (T := TX5) (N := 12) hx hb hts iX5_takesDigit_5 hown hK hP 0 rfl rfl 6 (by decide) (hts (.fieldLink RX5 19 "HallSightsModel" "parts" "[I") (List.mem_of_getElem? (i := 3) rfl)) (fun _ h9 => h9) rfl dX5_takesDigit_105 ?_
            refine lv_iconst (v := nI 3) hx hb dX5_takesDigit_108 (by decide) ?_
            refine lv_aload_n hx hb dX5_takesDigit_109 rfl (lv_at hl 3 rfl) ?_
            refine va_get (D := D) (ci := 5) (v := .int (nI nrd)) (C := RX5) (T := TX5) (N := 12) hx hb hts iX5_takesDigit_5 hown hK hP 0 rfl rfl 7 (by decide) (hts (.fieldLink RX5 140 "HallSightsModel" "read" "I") (List.mem_of_getElem? (i := 4) rfl)) (fun _ h9 => h9) rfl dX5_takesDigit_110 ?_
            refine kx_imul hx hb dX5_takesDigit_113 ?_
            refine lv_aload_n hx hb dX5_takesDigit_114 rfl (lv_at hl 3 rfl) ?_
            refine va_get (D := D) (ci := 5) (v := .int (nI npt)) (C := RX5) (T := TX5) (N := 12) hx hb hts iX5_takesDigit_5 hown hK hP 0 rfl rfl 9 (by decide) (hts (.fieldLink RX5 137 "HallSightsModel" "part" "I") (List.mem_of_getElem? (i := 2) rfl)) (fun _ h9 => h9) rfl dX5_takesDigit_115 ?_
            refine kx_iadd hx hb dX5_takesDigit_118 ?_
            refine lv_aload_n hx hb dX5_takesDigit_119 rfl (lv_at hl 3 rfl) ?_
            refine va_get (D := D) (ci := 5) (v := .int d0) (C := RX5) (T := TX5) (N := 12) hx hb hts iX5_takesDigit_5 hown hK hP 0 rfl rfl 8 (by decide) (hts (.fieldLink RX5 134 "HallSightsModel" "number" "I") (List.mem_of_getElem? (i := 1) rfl)) (fun _ h9 => h9) rfl dX5_takesDigit_120 ?_
            refine kx_iast hx hb hK hP hD hS 4 0 rfl rfl (by omega) (by decide) dX5_takesDigit_123 (fun H locs hP hD hS => ?_)
            have hP : va_P D vwCl (MW a cI z (nI ns) zh (nI nl) tx th (upd pa ((3 * nrd) + npt) d0) (nI nrd) d0 (nI npt) wy za) H := hP
            have hD : va_D (kA w0) (MW a cI z (nI ns) zh (nI nl) tx th (upd pa ((3 * nrd) + npt) d0) (nI nrd) d0 (nI npt) wy za) := hD
            refine lv_iload hx hb dX5_takesDigit_124 (lv_at hl 0 rfl) ?_
            have e_162 : (true : Bool) = (tdB nu npt d0) := by first | rfl | omega | (simp [tdB, tdNu, tdV, tdR, Int32.not_lt, Int32.not_le, c_5_1, c_26_85, c_66_141, c_73_148, c_77_155]; done) | (simp [tdB, tdNu, tdV, tdR, Int32.not_lt, Int32.not_le, c_5_1, c_26_85, c_66_141, c_73_148, c_77_155]; omega) | (revert c_5_1 c_26_85 c_66_141 c_73_148 c_77_155; simp +contextual [tdB, tdNu, tdV, tdR, Int32.not_lt, Int32.not_le]; done) | (revert c_5_1 c_26_85 c_66_141 c_73_148 c_77_155; simp +contextual [tdB, tdNu, tdV, tdR, Int32.not_lt, Int32.not_le]; omega)
            have ec_pa_163 : ((upd pa ((3 * nrd) + npt) d0) : ZZ) = (upd pa (3 * nrd + npt) (tdNu nu npt d0)) := by first | rfl | omega | (simp [tdB, tdNu, tdV, tdR, Int32.not_lt, Int32.not_le, c_5_1, c_26_85, c_66_141, c_73_148, c_77_155]; done) | (simp [tdB, tdNu, tdV, tdR, Int32.not_lt, Int32.not_le, c_5_1, c_26_85, c_66_141, c_73_148, c_77_155]; omega) | (revert c_5_1 c_26_85 c_66_141 c_73_148 c_77_155; simp +contextual [tdB, tdNu, tdV, tdR, Int32.not_lt, Int32.not_le]; done) | (revert c_5_1 c_26_85 c_66_141 c_73_148 c_77_155; simp +contextual [tdB, tdNu, tdV, tdR, Int32.not_lt, Int32.not_le]; omega)
            have ec_nu_164 : (d0 : Int32) = (tdNu nu npt d0) := by first | rfl | omega | (simp [tdB, tdNu, tdV, tdR, Int32.not_lt, Int32.not_le, c_5_1, c_26_85, c_66_141, c_73_148, c_77_155]; done) | (simp [tdB, tdNu, tdV, tdR, Int32.not_lt, Int32.not_le, c_5_1, c_26_85, c_66_141, c_73_148, c_77_155]; omega) | (revert c_5_1 c_26_85 c_66_141 c_73_148 c_77_155; simp +contextual [tdB, tdNu, tdV, tdR, Int32.not_lt, Int32.not_le]; done) | (revert c_5_1 c_26_85 c_66_141 c_73_148 c_77_155; simp +contextual [tdB, tdNu, tdV, tdR, Int32.not_lt, Int32.not_le]; omega)
            have ew_165 : (MW a cI z (nI ns) zh (nI nl) tx th (upd pa ((3 * nrd) + npt) d0) (nI nrd) d0 (nI npt) wy za : va_W) = (MW a cI z (nI ns) zh (nI nl) tx th (upd pa (3 * nrd + npt) (tdNu nu npt d0)) (nI nrd) (tdNu nu npt d0) (nI npt) wy za) := mw_c rfl rfl rfl rfl rfl rfl ec_pa_163 rfl ec_nu_164 rfl rfl rfl
            rw [ew_165] at hP hD
            subst hw0
            exact kq_zret hx hb hrt hlocks (congrArg bI e_162) hP hD hS dX5_takesDigit_126
set_option maxRecDepth 20000 in
theorem iX5_takes_5 : ∀ w ∈ wsX50, w ∈ wsX5_takes := by decide +kernel
set_option maxHeartbeats 4000000 in
set_option maxRecDepth 100000 in
theorem c_X5_takes (l : Launch) (D : va_G) (cI cC cH cL : ClassId) (a : Nat → Nat) (z zh tx pa wy : ZZ) (ns nl nrd npt : Nat) (th nu : Int32) (za : Int64) (c0 : Int32) (hpt : npt < 3) (hrd : 3 * nrd + npt < 33) : Met l yX5_takes wsX5_takes ({ frames := 3, cells := 0, slots := 0, locals := 66 }) (kw [.ref (a 0), .int c0] D (MW a cI z (nI ns) zh (nI nl) tx th pa (nI nrd) nu (nI npt) wy za) (kT cI cC cH cL)) (kq D (MW a cI z (nI ns) zh (nI nl) tx th pa (nI nrd) nu (nI npt) wy za) (MW a cI z (nI ns) zh (nI nl) tx th ((stepP (nrd, npt, nu, pa) c0).2.2.2) (nI ((stepP (nrd, npt, nu, pa) c0).1)) ((stepP (nrd, npt, nu, pa) c0).2.2.1) (nI ((stepP (nrd, npt, nu, pa) c0).2.1)) wy za) (.returned (some (.int (bI (okP (nrd, npt, nu, pa) c0)))))) 0 0 (kA (MW a cI z (nI ns) zh (nI nl) tx th pa (nI nrd) nu (nI npt) wy za)) := by
  refine Met.ofW (cc := cX5_takes) (maxL := 3) (ret := (some .boolean)) (by decide) rfl ?_
  intro p e s m args below meth c s₁ B hml hv
  obtain ⟨rfl, hP, hK, hD0⟩ := hv
  have hx := B.exec
  have hb := B.bytes
  have hrt := B.returns
  have hts := atoms_spec (ws := wsX5_takes) B.pre
  have hown : s.vm.findClass RX5 = some m.cls := findClass_of_methodNamed B.named
  have hlocks := B.notSynchronized
  have hl := lv_entry ([.ref (a 0), .int c0]) (n := 3) (Nat.le_of_ble_eq_true rfl)
  rw [lg_entry_eq]
  generalize (lg_sl ([.ref (a 0), .int c0]) ++ List.replicate (3 - (lg_sl ([.ref (a 0), .int c0])).length) Slot.unset).toArray = ls at hl ⊢
  have hl : lv_has ls 3 [(0, .ref (a 0)), (1, .int c0)] := hl
  have hD := kA_self hD0
  obtain ⟨w0, hw0⟩ : ∃ w : va_W, w = MW a cI z (nI ns) zh (nI nl) tx th pa (nI nrd) nu (nI npt) wy za := ⟨_, rfl⟩
  have hD : va_D (kA w0) (MW a cI z (nI ns) zh (nI nl) tx th pa (nI nrd) nu (nI npt) wy za) := by rw [hw0]; exact hD
  have hS : va_S (kA w0) s.heap s.heap [] := va_S.rf
  rw [show kA (MW a cI z (nI ns) zh (nI nl) tx th pa (nI nrd) nu (nI npt) wy za) = kA w0 from by rw [hw0], show kq D (MW a cI z (nI ns) zh (nI nl) tx th pa (nI nrd) nu (nI npt) wy za) = kq D w0 from by rw [hw0]]
  have hP : va_P D vwCl (MW a cI z (nI ns) zh (nI nl) tx th pa (nI nrd) nu (nI npt) wy za) s.heap := hP
  refine lv_aload_n hx hb dX5_takes_0 rfl (lv_at hl 0 rfl) ?_
  refine va_get (D := D) (ci := 5) (v := .int (nI npt)) (C := RX5) (T := TX5) (N := 12) hx hb hts iX5_takes_5 hown hK hP 0 rfl rfl 9 (by decide) (hts (.fieldLink RX5 137 "HallSightsModel" "part" "I") (List.mem_of_getElem? (i := 1) rfl)) (fun _ h9 => h9) rfl dX5_takes_1 ?_
  refine kx_if_ne (tgt := 12) hx hb (by omega) dX5_takes_4 (by decide) (fun c_4_0 => ?_) (fun c_4_1 => ?_)
  · refine lv_aload_n hx hb dX5_takes_12 rfl (lv_at hl 0 rfl) ?_
    refine va_get (D := D) (ci := 5) (v := .int (nI npt)) (C := RX5) (T := TX5) (N := 12) hx hb hts iX5_takes_5 hown hK hP 0 rfl rfl 9 (by decide) (hts (.fieldLink RX5 137 "HallSightsModel" "part" "I") (List.mem_of_getElem? (i := 1) rfl)) (fun _ h9 => h9) rfl dX5_takes_13 ?_
    refine lv_iconst (v := nI 1) hx hb dX5_takes_16 (by decide) ?_
    refine kx_icmp_ne (tgt := 25) hx hb (by omega) (by omega) dX5_takes_17 (by decide) (fun c_17_2 => ?_) (fun c_17_3 => ?_)
    · refine lv_bipush (v := nI 59) hx hb dX5_takes_25 (by decide) ?_
      refine lv_istore_n (lv' := [(2, .int (nI 59)), (0, .ref (a 0)), (1, .int c0)]) hx hb dX5_takes_27 rfl hl (by decide) rfl (fun ls hl => ?_)
      refine lv_aload_n hx hb dX5_takes_28 rfl (lv_at hl 1 rfl) ?_
      refine va_get (D := D) (ci := 5) (v := .int nu) (C := RX5) (T := TX5) (N := 12) hx hb hts iX5_takes_5 hown hK hP 0 rfl rfl 8 (by decide) (hts (.fieldLink RX5 134 "HallSightsModel" "number" "I") (List.mem_of_getElem? (i := 2) rfl)) (fun _ h9 => h9) rfl dX5_takes_29 ?_
      refine lv_iconst (v := (-1)) hx hb dX5_takes_32 (by decide) ?_
      refine lv_icmp_eq (tgt := 41) hx hb dX5_takes_33 (by decide) (fun c_33_4 => ?_) (fun c_33_5 => ?_)
      · have c_33_4 : (nu : Int32) = (-1) := c_33_4
        refine lv_aload_n hx hb dX5_takes_41 rfl (lv_at hl 1 rfl) ?_
        refine lv_iload_n hx hb dX5_takes_42 rfl (lv_at hl 2 rfl) ?_
        refine lv_bipush (v := nI 48) hx hb dX5_takes_43 (by decide) ?_
        refine lv_isub hx hb dX5_takes_45 ?_
        refine kw_V (As := [.int (c0 - (nI 48))]) (rest := []) (C := RX5) (own := RX5) ⟨hx, hb, hml, hown, hts⟩ (c_X5_takesDigit l D cI cC cH cL a z zh tx pa wy ns nl nrd npt th nu za (c0 - (nI 48)) (by first | assumption | omega) (by first | assumption | omega)) (cwV 1 hts gX5_takes_X5_takesDigit rfl rfl rfl k_X5_takesDigit ⟨Nat.le_of_ble_eq_true rfl, Nat.le_of_ble_eq_true rfl⟩) hP hD hK hS [0, 1, 2, 3, 4, 5] [] rfl rfl (wr := []) rfl (by decide) (by decide) (by decide) (va_recv (q := (RX5, TX5, 12)) hK hP (ci := 5) (q0 := 0) rfl rfl) rfl hl.1 rfl (Nat.le_of_ble_eq_true rfl) dX5_takes_46 ⟨Nat.le_of_ble_eq_true rfl, Nat.le_of_ble_eq_true rfl⟩ (fun H locs hP hD hS => ?_)
        have hP : va_P D vwCl (MW a cI z (nI ns) zh (nI nl) tx th (upd pa (3 * nrd + npt) (tdNu nu npt (c0 - (nI 48)))) (nI nrd) (tdNu nu npt (c0 - (nI 48))) (nI npt) wy za) H := hP
        have hD : va_D (kA w0) (MW a cI z (nI ns) zh (nI nl) tx th (upd pa (3 * nrd + npt) (tdNu nu npt (c0 - (nI 48)))) (nI nrd) (tdNu nu npt (c0 - (nI 48))) (nI npt) wy za) := hD
        have e_6 : (tdB nu npt (c0 - (nI 48)) : Bool) = (okP (nrd, npt, nu, pa) c0) := by first | rfl | omega | (simp [stepP, okP, isSg, sgn, Int32.not_lt, Int32.not_le, c_4_0, Nat.ne_of_gt c_4_0, c_17_2, c_33_4]; done) | (simp [stepP, okP, isSg, sgn, Int32.not_lt, Int32.not_le, c_4_0, Nat.ne_of_gt c_4_0, c_17_2, c_33_4]; omega) | (revert c_4_0 c_17_2 c_33_4; simp +contextual [stepP, okP, isSg, sgn, Int32.not_lt, Int32.not_le]; done) | (revert c_4_0 c_17_2 c_33_4; simp +contextual [stepP, okP, isSg, sgn, Int32.not_lt, Int32.not_le]; omega)
        have ec_pa_7 : ((upd pa (3 * nrd + npt) (tdNu nu npt (c0 - (nI 48)))) : ZZ) = ((stepP (nrd, npt, nu, pa) c0).2.2.2) := by first | rfl | omega | (simp [stepP, okP, isSg, sgn, Int32.not_lt, Int32.not_le, c_4_0, Nat.ne_of_gt c_4_0, c_17_2, c_33_4]; done) | (simp [stepP, okP, isSg, sgn, Int32.not_lt, Int32.not_le, c_4_0, Nat.ne_of_gt c_4_0, c_17_2, c_33_4]; omega) | (revert c_4_0 c_17_2 c_33_4; simp +contextual [stepP, okP, isSg, sgn, Int32.not_lt, Int32.not_le]; done) | (revert c_4_0 c_17_2 c_33_4; simp +contextual [stepP, okP, isSg, sgn, Int32.not_lt, Int32.not_le]; omega)
        have ec_rd_8 : ((nI nrd) : Int32) = (nI ((stepP (nrd, npt, nu, pa) c0).1)) := by first | rfl | omega | (simp [stepP, okP, isSg, sgn, Int32.not_lt, Int32.not_le, c_4_0, Nat.ne_of_gt c_4_0, c_17_2, c_33_4]; done) | (simp [stepP, okP, isSg, sgn, Int32.not_lt, Int32.not_le, c_4_0, Nat.ne_of_gt c_4_0, c_17_2, c_33_4]; omega) | (revert c_4_0 c_17_2 c_33_4; simp +contextual [stepP, okP, isSg, sgn, Int32.not_lt, Int32.not_le]; done) | (revert c_4_0 c_17_2 c_33_4; simp +contextual [stepP, okP, isSg, sgn, Int32.not_lt, Int32.not_le]; omega)
        have ec_nu_9 : ((tdNu nu npt (c0 - (nI 48))) : Int32) = ((stepP (nrd, npt, nu, pa) c0).2.2.1) := by first | rfl | omega | (simp [stepP, okP, isSg, sgn, Int32.not_lt, Int32.not_le, c_4_0, Nat.ne_of_gt c_4_0, c_17_2, c_33_4]; done) | (simp [stepP, okP, isSg, sgn, Int32.not_lt, Int32.not_le, c_4_0, Nat.ne_of_gt c_4_0, c_17_2, c_33_4]; omega) | (revert c_4_0 c_17_2 c_33_4; simp +contextual [stepP, okP, isSg, sgn, Int32.not_lt, Int32.not_le]; done) | (revert c_4_0 c_17_2 c_33_4; simp +contextual [stepP, okP, isSg, sgn, Int32.not_lt, Int32.not_le]; omega)
        have ec_pt_10 : ((nI npt) : Int32) = (nI ((stepP (nrd, npt, nu, pa) c0).2.1)) := by first | rfl | omega | (simp [stepP, okP, isSg, sgn, Int32.not_lt, Int32.not_le, c_4_0, Nat.ne_of_gt c_4_0, c_17_2, c_33_4]; done) | (simp [stepP, okP, isSg, sgn, Int32.not_lt, Int32.not_le, c_4_0, Nat.ne_of_gt c_4_0, c_17_2, c_33_4]; omega) | (revert c_4_0 c_17_2 c_33_4; simp +contextual [stepP, okP, isSg, sgn, Int32.not_lt, Int32.not_le]; done) | (revert c_4_0 c_17_2 c_33_4; simp +contextual [stepP, okP, isSg, sgn, Int32.not_lt, Int32.not_le]; omega)
        have ew_11 : (MW a cI z (nI ns) zh (nI nl) tx th (upd pa (3 * nrd + npt) (tdNu nu npt (c0 - (nI 48)))) (nI nrd) (tdNu nu npt (c0 - (nI 48))) (nI npt) wy za : va_W) = (MW a cI z (nI ns) zh (nI nl) tx th ((stepP (nrd, npt, nu, pa) c0).2.2.2) (nI ((stepP (nrd, npt, nu, pa) c0).1)) ((stepP (nrd, npt, nu, pa) c0).2.2.1) (nI ((stepP (nrd, npt, nu, pa) c0).2.1)) wy za) := mw_c rfl rfl rfl rfl rfl rfl ec_pa_7 ec_rd_8 ec_nu_9 ec_pt_10 rfl rfl
        rw [ew_11] at hP hD
        subst hw0
        exact kq_zret hx hb hrt hlocks (congrArg bI e_6) hP hD hS dX5_takes_49
      · have c_33_5 : ¬ (nu : Int32) = (-1) := c_33_5
        refine lv_iload_n hx hb dX5_takes_36 rfl (lv_at hl 2 rfl) ?_
        refine lv_iload_n hx hb dX5_takes_37 rfl (lv_at hl 0 rfl) ?_
        refine lv_icmp_eq (tgt := 50) hx hb dX5_takes_38 (by decide) (fun c_38_12 => ?_) (fun c_38_13 => ?_)
        · have c_38_12 : (c0 : Int32) = (nI 59) := c_38_12
          refine lv_aload_n hx hb dX5_takes_50 rfl (lv_at hl 1 rfl) ?_
          refine lv_dup hx hb dX5_takes_51 rfl ?_
          refine va_get (D := D) (ci := 5) (v := .int (nI nrd)) (C := RX5) (T := TX5) (N := 12) hx hb hts iX5_takes_5 hown hK hP 0 rfl rfl 7 (by decide) (hts (.fieldLink RX5 140 "HallSightsModel" "read" "I") (List.mem_of_getElem? (i := 3) rfl)) (fun _ h9 => h9) rfl dX5_takes_52 ?_
          refine lv_aload_n hx hb dX5_takes_55 rfl (lv_at hl 1 rfl) ?_
          refine va_get (D := D) (ci := 5) (v := .int (nI npt)) (C := RX5) (T := TX5) (N := 12) hx hb hts iX5_takes_5 hown hK hP 0 rfl rfl 9 (by decide) (hts (.fieldLink RX5 137 "HallSightsModel" "part" "I") (List.mem_of_getElem? (i := 1) rfl)) (fun _ h9 => h9) rfl dX5_takes_56 ?_
          refine lv_iconst (v := nI 2) hx hb dX5_takes_59 (by decide) ?_
          refine kx_icmp_ne (tgt := 67) hx hb (by omega) (by omega) dX5_takes_60 (by decide) (fun c_60_14 => ?_) (fun c_60_15 => ?_)
          · refine lv_iconst (v := nI 0) hx hb dX5_takes_67 (by decide) ?_
            refine kx_iadd hx hb dX5_takes_68 ?_
            refine va_put (D := D) (ci := 5) (v := .int (nI (nrd + 0))) (ty := .int) (C := RX5) (T := TX5) (N := 12) hx hb hts iX5_takes_5 tyX5 tyX5_ok nmX5 hown hK hP hD hS 0 rfl rfl 7 (by decide) (hts (.fieldLink RX5 140 "HallSightsModel" "read" "I") (List.mem_of_getElem? (i := 3) rfl)) (fun _ h9 => h9) rfl (by decide +kernel) rfl rfl (Nat.le_of_ble_eq_true rfl) dX5_takes_69 (fun H locs hP hD hS => ?_)
            have hP : va_P D vwCl (MW a cI z (nI ns) zh (nI nl) tx th pa (nI (nrd + 0)) nu (nI npt) wy za) H := hP
            have hD : va_D (kA w0) (MW a cI z (nI ns) zh (nI nl) tx th pa (nI (nrd + 0)) nu (nI npt) wy za) := hD
            refine lv_aload_n hx hb dX5_takes_72 rfl (lv_at hl 1 rfl) ?_
            refine lv_aload_n hx hb dX5_takes_73 rfl (lv_at hl 1 rfl) ?_
            refine va_get (D := D) (ci := 5) (v := .int (nI npt)) (C := RX5) (T := TX5) (N := 12) hx hb hts iX5_takes_5 hown hK hP 0 rfl rfl 9 (by decide) (hts (.fieldLink RX5 137 "HallSightsModel" "part" "I") (List.mem_of_getElem? (i := 1) rfl)) (fun _ h9 => h9) rfl dX5_takes_74 ?_
            refine lv_iconst (v := nI 2) hx hb dX5_takes_77 (by decide) ?_
            refine kx_icmp_ne (tgt := 85) hx hb (by omega) (by omega) dX5_takes_78 (by decide) (fun c_78_16 => ?_) (fun c => absurd c (by omega))
            refine lv_aload_n hx hb dX5_takes_85 rfl (lv_at hl 1 rfl) ?_
            refine va_get (D := D) (ci := 5) (v := .int (nI npt)) (C := RX5) (T := TX5) (N := 12) hx hb hts iX5_takes_5 hown hK hP 0 rfl rfl 9 (by decide) (hts (.fieldLink RX5 137 "HallSightsModel" "part" "I") (List.mem_of_getElem? (i := 1) rfl)) (fun _ h9 => h9) rfl dX5_takes_86 ?_
            refine lv_iconst (v := nI 1) hx hb dX5_takes_89 (by decide) ?_
            refine kx_iadd hx hb dX5_takes_90 ?_
            refine va_put (D := D) (ci := 5) (v := .int (nI (npt + 1))) (ty := .int) (C := RX5) (T := TX5) (N := 12) hx hb hts iX5_takes_5 tyX5 tyX5_ok nmX5 hown hK hP hD hS 0 rfl rfl 9 (by decide) (hts (.fieldLink RX5 137 "HallSightsModel" "part" "I") (List.mem_of_getElem? (i := 1) rfl)) (fun _ h9 => h9) rfl (by decide +kernel) rfl rfl (Nat.le_of_ble_eq_true rfl) dX5_takes_91 (fun H locs hP hD hS => ?_)
            have hP : va_P D vwCl (MW a cI z (nI ns) zh (nI nl) tx th pa (nI (nrd + 0)) nu (nI (npt + 1)) wy za) H := hP
            have hD : va_D (kA w0) (MW a cI z (nI ns) zh (nI nl) tx th pa (nI (nrd + 0)) nu (nI (npt + 1)) wy za) := hD
            refine lv_aload_n hx hb dX5_takes_94 rfl (lv_at hl 1 rfl) ?_
            refine lv_iconst (v := (-1)) hx hb dX5_takes_95 (by decide) ?_
            refine va_put (D := D) (ci := 5) (v := .int (-1)) (ty := .int) (C := RX5) (T := TX5) (N := 12) hx hb hts iX5_takes_5 tyX5 tyX5_ok nmX5 hown hK hP hD hS 0 rfl rfl 8 (by decide) (hts (.fieldLink RX5 134 "HallSightsModel" "number" "I") (List.mem_of_getElem? (i := 2) rfl)) (fun _ h9 => h9) rfl (by decide +kernel) rfl rfl (Nat.le_of_ble_eq_true rfl) dX5_takes_96 (fun H locs hP hD hS => ?_)
            have hP : va_P D vwCl (MW a cI z (nI ns) zh (nI nl) tx th pa (nI (nrd + 0)) (-1) (nI (npt + 1)) wy za) H := hP
            have hD : va_D (kA w0) (MW a cI z (nI ns) zh (nI nl) tx th pa (nI (nrd + 0)) (-1) (nI (npt + 1)) wy za) := hD
            refine lv_iconst (v := nI 1) hx hb dX5_takes_99 (by decide) ?_
            have e_17 : (true : Bool) = (okP (nrd, npt, nu, pa) c0) := by first | rfl | omega | (simp [stepP, okP, isSg, sgn, Int32.not_lt, Int32.not_le, c_4_0, Nat.ne_of_gt c_4_0, c_17_2, c_33_5, c_38_12, c_60_14]; done) | (simp [stepP, okP, isSg, sgn, Int32.not_lt, Int32.not_le, c_4_0, Nat.ne_of_gt c_4_0, c_17_2, c_33_5, c_38_12, c_60_14]; omega) | (revert c_4_0 c_17_2 c_33_5 c_38_12 c_60_14; simp +contextual [stepP, okP, isSg, sgn, Int32.not_lt, Int32.not_le]; done) | (revert c_4_0 c_17_2 c_33_5 c_38_12 c_60_14; simp +contextual [stepP, okP, isSg, sgn, Int32.not_lt, Int32.not_le]; omega)
            have ec_pa_18 : (pa : ZZ) = ((stepP (nrd, npt, nu, pa) c0).2.2.2) := by first | rfl | omega | (simp [stepP, okP, isSg, sgn, Int32.not_lt, Int32.not_le, c_4_0, Nat.ne_of_gt c_4_0, c_17_2, c_33_5, c_38_12, c_60_14]; done) | (simp [stepP, okP, isSg, sgn, Int32.not_lt, Int32.not_le, c_4_0, Nat.ne_of_gt c_4_0, c_17_2, c_33_5, c_38_12, c_60_14]; omega) | (revert c_4_0 c_17_2 c_33_5 c_38_12 c_60_14; simp +contextual [stepP, okP, isSg, sgn, Int32.not_lt, Int32.not_le]; done) | (revert c_4_0 c_17_2 c_33_5 c_38_12 c_60_14; simp +contextual [stepP, okP, isSg, sgn, Int32.not_lt, Int32.not_le]; omega)
            have ec_rd_19 : ((nI (nrd + 0)) : Int32) = (nI ((stepP (nrd, npt, nu, pa) c0).1)) := by first | rfl | omega | (simp [stepP, okP, isSg, sgn, Int32.not_lt, Int32.not_le, c_4_0, Nat.ne_of_gt c_4_0, c_17_2, c_33_5, c_38_12, c_60_14]; done) | (simp [stepP, okP, isSg, sgn, Int32.not_lt, Int32.not_le, c_4_0, Nat.ne_of_gt c_4_0, c_17_2, c_33_5, c_38_12, c_60_14]; omega) | (revert c_4_0 c_17_2 c_33_5 c_38_12 c_60_14; simp +contextual [stepP, okP, isSg, sgn, Int32.not_lt, Int32.not_le]; done) | (revert c_4_0 c_17_2 c_33_5 c_38_12 c_60_14; simp +contextual [stepP, okP, isSg, sgn, Int32.not_lt, Int32.not_le]; omega)
            have ec_nu_20 : ((-1) : Int32) = ((stepP (nrd, npt, nu, pa) c0).2.2.1) := by first | rfl | omega | (simp [stepP, okP, isSg, sgn, Int32.not_lt, Int32.not_le, c_4_0, Nat.ne_of_gt c_4_0, c_17_2, c_33_5, c_38_12, c_60_14]; done) | (simp [stepP, okP, isSg, sgn, Int32.not_lt, Int32.not_le, c_4_0, Nat.ne_of_gt c_4_0, c_17_2, c_33_5, c_38_12, c_60_14]; omega) | (revert c_4_0 c_17_2 c_33_5 c_38_12 c_60_14; simp +contextual [stepP, okP, isSg, sgn, Int32.not_lt, Int32.not_le]; done) | (revert c_4_0 c_17_2 c_33_5 c_38_12 c_60_14; simp +contextual [stepP, okP, isSg, sgn, Int32.not_lt, Int32.not_le]; omega)
            have ec_pt_21 : ((nI (npt + 1)) : Int32) = (nI ((stepP (nrd, npt, nu, pa) c0).2.1)) := by first | rfl | omega | (simp [stepP, okP, isSg, sgn, Int32.not_lt, Int32.not_le, c_4_0, Nat.ne_of_gt c_4_0, c_17_2, c_33_5, c_38_12, c_60_14]; done) | (simp [stepP, okP, isSg, sgn, Int32.not_lt, Int32.not_le, c_4_0, Nat.ne_of_gt c_4_0, c_17_2, c_33_5, c_38_12, c_60_14]; omega) | (revert c_4_0 c_17_2 c_33_5 c_38_12 c_60_14; simp +contextual [stepP, okP, isSg, sgn, Int32.not_lt, Int32.not_le]; done) | (revert c_4_0 c_17_2 c_33_5 c_38_12 c_60_14; simp +contextual [stepP, okP, isSg, sgn, Int32.not_lt, Int32.not_le]; omega)
            have ew_22 : (MW a cI z (nI ns) zh (nI nl) tx th pa (nI (nrd + 0)) (-1) (nI (npt + 1)) wy za : va_W) = (MW a cI z (nI ns) zh (nI nl) tx th ((stepP (nrd, npt, nu, pa) c0).2.2.2) (nI ((stepP (nrd, npt, nu, pa) c0).1)) ((stepP (nrd, npt, nu, pa) c0).2.2.1) (nI ((stepP (nrd, npt, nu, pa) c0).2.1)) wy za) := mw_c rfl rfl rfl rfl rfl rfl ec_pa_18 ec_rd_19 ec_nu_20 ec_pt_21 rfl rfl
            rw [ew_22] at hP hD
            subst hw0
            exact kq_zret hx hb hrt hlocks (congrArg bI e_17) hP hD hS dX5_takes_100
          · refine lv_iconst (v := nI 1) hx hb dX5_takes_63 (by decide) ?_
            refine lv_goto (tgt := 68) hx hb dX5_takes_64 (by decide) ?_
            refine kx_iadd hx hb dX5_takes_68 ?_
            refine va_put (D := D) (ci := 5) (v := .int (nI (nrd + 1))) (ty := .int) (C := RX5) (T := TX5) (N := 12) hx hb hts iX5_takes_5 tyX5 tyX5_ok nmX5 hown hK hP hD hS 0 rfl rfl 7 (by decide) (hts (.fieldLink RX5 140 "HallSightsModel" "read" "I") (List.mem_of_getElem? (i := 3) rfl)) (fun _ h9 => h9) rfl (by decide +kernel) rfl rfl (Nat.le_of_ble_eq_true rfl) dX5_takes_69 (fun H locs hP hD hS => ?_)
            have hP : va_P D vwCl (MW a cI z (nI ns) zh (nI nl) tx th pa (nI (nrd + 1)) nu (nI npt) wy za) H := hP
            have hD : va_D (kA w0) (MW a cI z (nI ns) zh (nI nl) tx th pa (nI (nrd + 1)) nu (nI npt) wy za) := hD
            refine lv_aload_n hx hb dX5_takes_72 rfl (lv_at hl 1 rfl) ?_
            refine lv_aload_n hx hb dX5_takes_73 rfl (lv_at hl 1 rfl) ?_
            refine va_get (D := D) (ci := 5) (v := .int (nI npt)) (C := RX5) (T := TX5) (N := 12) hx hb hts iX5_takes_5 hown hK hP 0 rfl rfl 9 (by decide) (hts (.fieldLink RX5 137 "HallSightsModel" "part" "I") (List.mem_of_getElem? (i := 1) rfl)) (fun _ h9 => h9) rfl dX5_takes_74 ?_
            refine lv_iconst (v := nI 2) hx hb dX5_takes_77 (by decide) ?_
            refine kx_icmp_ne (tgt := 85) hx hb (by omega) (by omega) dX5_takes_78 (by decide) (fun c => absurd c (by omega)) (fun c_78_23 => ?_)
            refine lv_iconst (v := nI 0) hx hb dX5_takes_81 (by decide) ?_
            refine lv_goto (tgt := 91) hx hb dX5_takes_82 (by decide) ?_
            refine va_put (D := D) (ci := 5) (v := .int (nI 0)) (ty := .int) (C := RX5) (T := TX5) (N := 12) hx hb hts iX5_takes_5 tyX5 tyX5_ok nmX5 hown hK hP hD hS 0 rfl rfl 9 (by decide) (hts (.fieldLink RX5 137 "HallSightsModel" "part" "I") (List.mem_of_getElem? (i := 1) rfl)) (fun _ h9 => h9) rfl (by decide +kernel) rfl rfl (Nat.le_of_ble_eq_true rfl) dX5_takes_91 (fun H locs hP hD hS => ?_)
            have hP : va_P D vwCl (MW a cI z (nI ns) zh (nI nl) tx th pa (nI (nrd + 1)) nu (nI 0) wy za) H := hP
            have hD : va_D (kA w0) (MW a cI z (nI ns) zh (nI nl) tx th pa (nI (nrd + 1)) nu (nI 0) wy za) := hD
            refine lv_aload_n hx hb dX5_takes_94 rfl (lv_at hl 1 rfl) ?_
            refine lv_iconst (v := (-1)) hx hb dX5_takes_95 (by decide) ?_
            refine va_put (D := D) (ci := 5) (v := .int (-1)) (ty := .int) (C := RX5) (T := TX5) (N := 12) hx hb hts iX5_takes_5 tyX5 tyX5_ok nmX5 hown hK hP hD hS 0 rfl rfl 8 (by decide) (hts (.fieldLink RX5 134 "HallSightsModel" "number" "I") (List.mem_of_getElem? (i := 2) rfl)) (fun _ h9 => h9) rfl (by decide +kernel) rfl rfl (Nat.le_of_ble_eq_true rfl) dX5_takes_96 (fun H locs hP hD hS => ?_)
            have hP : va_P D vwCl (MW a cI z (nI ns) zh (nI nl) tx th pa (nI (nrd + 1)) (-1) (nI 0) wy za) H := hP
            have hD : va_D (kA w0) (MW a cI z (nI ns) zh (nI nl) tx th pa (nI (nrd + 1)) (-1) (nI 0) wy za) := hD
            refine lv_iconst (v := nI 1) hx hb dX5_takes_99 (by decide) ?_
            have e_24 : (true : Bool) = (okP (nrd, npt, nu, pa) c0) := by first | rfl | omega | (simp [stepP, okP, isSg, sgn, Int32.not_lt, Int32.not_le, c_4_0, Nat.ne_of_gt c_4_0, c_17_2, c_33_5, c_38_12, c_60_15]; done) | (simp [stepP, okP, isSg, sgn, Int32.not_lt, Int32.not_le, c_4_0, Nat.ne_of_gt c_4_0, c_17_2, c_33_5, c_38_12, c_60_15]; omega) | (revert c_4_0 c_17_2 c_33_5 c_38_12 c_60_15; simp +contextual [stepP, okP, isSg, sgn, Int32.not_lt, Int32.not_le]; done) | (revert c_4_0 c_17_2 c_33_5 c_38_12 c_60_15; simp +contextual [stepP, okP, isSg, sgn, Int32.not_lt, Int32.not_le]; omega)
            have ec_pa_25 : (pa : ZZ) = ((stepP (nrd, npt, nu, pa) c0).2.2.2) := by first | rfl | omega | (simp [stepP, okP, isSg, sgn, Int32.not_lt, Int32.not_le, c_4_0, Nat.ne_of_gt c_4_0, c_17_2, c_33_5, c_38_12, c_60_15]; done) | (simp [stepP, okP, isSg, sgn, Int32.not_lt, Int32.not_le, c_4_0, Nat.ne_of_gt c_4_0, c_17_2, c_33_5, c_38_12, c_60_15]; omega) | (revert c_4_0 c_17_2 c_33_5 c_38_12 c_60_15; simp +contextual [stepP, okP, isSg, sgn, Int32.not_lt, Int32.not_le]; done) | (revert c_4_0 c_17_2 c_33_5 c_38_12 c_60_15; simp +contextual [stepP, okP, isSg, sgn, Int32.not_lt, Int32.not_le]; omega)
            have ec_rd_26 : ((nI (nrd + 1)) : Int32) = (nI ((stepP (nrd, npt, nu, pa) c0).1)) := by first | rfl | omega | (simp [stepP, okP, isSg, sgn, Int32.not_lt, Int32.not_le, c_4_0, Nat.ne_of_gt c_4_0, c_17_2, c_33_5, c_38_12, c_60_15]; done) | (simp [stepP, okP, isSg, sgn, Int32.not_lt, Int32.not_le, c_4_0, Nat.ne_of_gt c_4_0, c_17_2, c_33_5, c_38_12, c_60_15]; omega) | (revert c_4_0 c_17_2 c_33_5 c_38_12 c_60_15; simp +contextual [stepP, okP, isSg, sgn, Int32.not_lt, Int32.not_le]; done) | (revert c_4_0 c_17_2 c_33_5 c_38_12 c_60_15; simp +contextual [stepP, okP, isSg, sgn, Int32.not_lt, Int32.not_le]; omega)
            have ec_nu_27 : ((-1) : Int32) = ((stepP (nrd, npt, nu, pa) c0).2.2.1) := by first | rfl | omega | (simp [stepP, okP, isSg, sgn, Int32.not_lt, Int32.not_le, c_4_0, Nat.ne_of_gt c_4_0, c_17_2, c_33_5, c_38_12, c_60_15]; done) | (simp [stepP, okP, isSg, sgn, Int32.not_lt, Int32.not_le, c_4_0, Nat.ne_of_gt c_4_0, c_17_2, c_33_5, c_38_12, c_60_15]; omega) | (revert c_4_0 c_17_2 c_33_5 c_38_12 c_60_15; simp +contextual [stepP, okP, isSg, sgn, Int32.not_lt, Int32.not_le]; done) | (revert c_4_0 c_17_2 c_33_5 c_38_12 c_60_15; simp +contextual [stepP, okP, isSg, sgn, Int32.not_lt, Int32.not_le]; omega)
            have ec_pt_28 : ((nI 0) : Int32) = (nI ((stepP (nrd, npt, nu, pa) c0).2.1)) := by first | rfl | omega | (simp [stepP, okP, isSg, sgn, Int32.not_lt, Int32.not_le, c_4_0, Nat.ne_of_gt c_4_0, c_17_2, c_33_5, c_38_12, c_60_15]; done) | (simp [stepP, okP, isSg, sgn, Int32.not_lt, Int32.not_le, c_4_0, Nat.ne_of_gt c_4_0, c_17_2, c_33_5, c_38_12, c_60_15]; omega) | (revert c_4_0 c_17_2 c_33_5 c_38_12 c_60_15; simp +contextual [stepP, okP, isSg, sgn, Int32.not_lt, Int32.not_le]; done) | (revert c_4_0 c_17_2 c_33_5 c_38_12 c_60_15; simp +contextual [stepP, okP, isSg, sgn, Int32.not_lt, Int32.not_le]; omega)
            have ew_29 : (MW a cI z (nI ns) zh (nI nl) tx th pa (nI (nrd + 1)) (-1) (nI 0) wy za : va_W) = (MW a cI z (nI ns) zh (nI nl) tx th ((stepP (nrd, npt, nu, pa) c0).2.2.2) (nI ((stepP (nrd, npt, nu, pa) c0).1)) ((stepP (nrd, npt, nu, pa) c0).2.2.1) (nI ((stepP (nrd, npt, nu, pa) c0).2.1)) wy za) := mw_c rfl rfl rfl rfl rfl rfl ec_pa_25 ec_rd_26 ec_nu_27 ec_pt_28 rfl rfl
            rw [ew_29] at hP hD
            subst hw0
            exact kq_zret hx hb hrt hlocks (congrArg bI e_24) hP hD hS dX5_takes_100
        · have c_38_13 : ¬ (c0 : Int32) = (nI 59) := c_38_13
          refine lv_aload_n hx hb dX5_takes_41 rfl (lv_at hl 1 rfl) ?_
          refine lv_iload_n hx hb dX5_takes_42 rfl (lv_at hl 2 rfl) ?_
          refine lv_bipush (v := nI 48) hx hb dX5_takes_43 (by decide) ?_
          refine lv_isub hx hb dX5_takes_45 ?_
          refine kw_V (As := [.int (c0 - (nI 48))]) (rest := []) (C := RX5) (own := RX5) ⟨hx, hb, hml, hown, hts⟩ (c_X5_takesDigit l D cI cC cH cL a z zh tx pa wy ns nl nrd npt th nu za (c0 - (nI 48)) (by first | assumption | omega) (by first | assumption | omega)) (cwV 1 hts gX5_takes_X5_takesDigit rfl rfl rfl k_X5_takesDigit ⟨Nat.le_of_ble_eq_true rfl, Nat.le_of_ble_eq_true rfl⟩) hP hD hK hS [0, 1, 2, 3, 4, 5] [] rfl rfl (wr := []) rfl (by decide) (by decide) (by decide) (va_recv (q := (RX5, TX5, 12)) hK hP (ci := 5) (q0 := 0) rfl rfl) rfl hl.1 rfl (Nat.le_of_ble_eq_true rfl) dX5_takes_46 ⟨Nat.le_of_ble_eq_true rfl, Nat.le_of_ble_eq_true rfl⟩ (fun H locs hP hD hS => ?_)
          have hP : va_P D vwCl (MW a cI z (nI ns) zh (nI nl) tx th (upd pa (3 * nrd + npt) (tdNu nu npt (c0 - (nI 48)))) (nI nrd) (tdNu nu npt (c0 - (nI 48))) (nI npt) wy za) H := hP
          have hD : va_D (kA w0) (MW a cI z (nI ns) zh (nI nl) tx th (upd pa (3 * nrd + npt) (tdNu nu npt (c0 - (nI 48)))) (nI nrd) (tdNu nu npt (c0 - (nI 48))) (nI npt) wy za) := hD
          have e_30 : (tdB nu npt (c0 - (nI 48)) : Bool) = (okP (nrd, npt, nu, pa) c0) := by first | rfl | omega | (simp [stepP, okP, isSg, sgn, Int32.not_lt, Int32.not_le, c_4_0, Nat.ne_of_gt c_4_0, c_17_2, c_33_5, c_38_13]; done) | (simp [stepP, okP, isSg, sgn, Int32.not_lt, Int32.not_le, c_4_0, Nat.ne_of_gt c_4_0, c_17_2, c_33_5, c_38_13]; omega) | (revert c_4_0 c_17_2 c_33_5 c_38_13; simp +contextual [stepP, okP, isSg, sgn, Int32.not_lt, Int32.not_le]; done) | (revert c_4_0 c_17_2 c_33_5 c_38_13; simp +contextual [stepP, okP, isSg, sgn, Int32.not_lt, Int32.not_le]; omega)
          have ec_pa_31 : ((upd pa (3 * nrd + npt) (tdNu nu npt (c0 - (nI 48)))) : ZZ) = ((stepP (nrd, npt, nu, pa) c0).2.2.2) := by first | rfl | omega | (simp [stepP, okP, isSg, sgn, Int32.not_lt, Int32.not_le, c_4_0, Nat.ne_of_gt c_4_0, c_17_2, c_33_5, c_38_13]; done) | (simp [stepP, okP, isSg, sgn, Int32.not_lt, Int32.not_le, c_4_0, Nat.ne_of_gt c_4_0, c_17_2, c_33_5, c_38_13]; omega) | (revert c_4_0 c_17_2 c_33_5 c_38_13; simp +contextual [stepP, okP, isSg, sgn, Int32.not_lt, Int32.not_le]; done) | (revert c_4_0 c_17_2 c_33_5 c_38_13; simp +contextual [stepP, okP, isSg, sgn, Int32.not_lt, Int32.not_le]; omega)
          have ec_rd_32 : ((nI nrd) : Int32) = (nI ((stepP (nrd, npt, nu, pa) c0).1)) := by first | rfl | omega | (simp [stepP, okP, isSg, sgn, Int32.not_lt, Int32.not_le, c_4_0, Nat.ne_of_gt c_4_0, c_17_2, c_33_5, c_38_13]; done) | (simp [stepP, okP, isSg, sgn, Int32.not_lt, Int32.not_le, c_4_0, Nat.ne_of_gt c_4_0, c_17_2, c_33_5, c_38_13]; omega) | (revert c_4_0 c_17_2 c_33_5 c_38_13; simp +contextual [stepP, okP, isSg, sgn, Int32.not_lt, Int32.not_le]; done) | (revert c_4_0 c_17_2 c_33_5 c_38_13; simp +contextual [stepP, okP, isSg, sgn, Int32.not_lt, Int32.not_le]; omega)
          have ec_nu_33 : ((tdNu nu npt (c0 - (nI 48))) : Int32) = ((stepP (nrd, npt, nu, pa) c0).2.2.1) := by first | rfl | omega | (simp [stepP, okP, isSg, sgn, Int32.not_lt, Int32.not_le, c_4_0, Nat.ne_of_gt c_4_0, c_17_2, c_33_5, c_38_13]; done) | (simp [stepP, okP, isSg, sgn, Int32.not_lt, Int32.not_le, c_4_0, Nat.ne_of_gt c_4_0, c_17_2, c_33_5, c_38_13]; omega) | (revert c_4_0 c_17_2 c_33_5 c_38_13; simp +contextual [stepP, okP, isSg, sgn, Int32.not_lt, Int32.not_le]; done) | (revert c_4_0 c_17_2 c_33_5 c_38_13; simp +contextual [stepP, okP, isSg, sgn, Int32.not_lt, Int32.not_le]; omega)
          have ec_pt_34 : ((nI npt) : Int32) = (nI ((stepP (nrd, npt, nu, pa) c0).2.1)) := by first | rfl | omega | (simp [stepP, okP, isSg, sgn, Int32.not_lt, Int32.not_le, c_4_0, Nat.ne_of_gt c_4_0, c_17_2, c_33_5, c_38_13]; done) | (simp [stepP, okP, isSg, sgn, Int32.not_lt, Int32.not_le, c_4_0, Nat.ne_of_gt c_4_0, c_17_2, c_33_5, c_38_13]; omega) | (revert c_4_0 c_17_2 c_33_5 c_38_13; simp +contextual [stepP, okP, isSg, sgn, Int32.not_lt, Int32.not_le]; done) | (revert c_4_0 c_17_2 c_33_5 c_38_13; simp +contextual [stepP, okP, isSg, sgn, Int32.not_lt, Int32.not_le]; omega)
          have ew_35 : (MW a cI z (nI ns) zh (nI nl) tx th (upd pa (3 * nrd + npt) (tdNu nu npt (c0 - (nI 48)))) (nI nrd) (tdNu nu npt (c0 - (nI 48))) (nI npt) wy za : va_W) = (MW a cI z (nI ns) zh (nI nl) tx th ((stepP (nrd, npt, nu, pa) c0).2.2.2) (nI ((stepP (nrd, npt, nu, pa) c0).1)) ((stepP (nrd, npt, nu, pa) c0).2.2.1) (nI ((stepP (nrd, npt, nu, pa) c0).2.1)) wy za) := mw_c rfl rfl rfl rfl rfl rfl ec_pa_31 ec_rd_32 ec_nu_33 ec_pt_34 rfl rfl
          rw [ew_35] at hP hD
          subst hw0
          exact kq_zret hx hb hrt hlocks (congrArg bI e_30) hP hD hS dX5_takes_49
    · refine lv_bipush (v := nI 42) hx hb dX5_takes_20 (by decide) ?_
      refine lv_goto (tgt := 27) hx hb dX5_takes_22 (by decide) ?_
      refine lv_istore_n (lv' := [(2, .int (nI 42)), (0, .ref (a 0)), (1, .int c0)]) hx hb dX5_takes_27 rfl hl (by decide) rfl (fun ls hl => ?_)
      refine lv_aload_n hx hb dX5_takes_28 rfl (lv_at hl 1 rfl) ?_
      refine va_get (D := D) (ci := 5) (v := .int nu) (C := RX5) (T := TX5) (N := 12) hx hb hts iX5_takes_5 hown hK hP 0 rfl rfl 8 (by decide) (hts (.fieldLink RX5 134 "HallSightsModel" "number" "I") (List.mem_of_getElem? (i := 2) rfl)) (fun _ h9 => h9) rfl dX5_takes_29 ?_
      refine lv_iconst (v := (-1)) hx hb dX5_takes_32 (by decide) ?_
      refine lv_icmp_eq (tgt := 41) hx hb dX5_takes_33 (by decide) (fun c_33_36 => ?_) (fun c_33_37 => ?_)
      · have c_33_36 : (nu : Int32) = (-1) := c_33_36
        refine lv_aload_n hx hb dX5_takes_41 rfl (lv_at hl 1 rfl) ?_
        refine lv_iload_n hx hb dX5_takes_42 rfl (lv_at hl 2 rfl) ?_
        refine lv_bipush (v := nI 48) hx hb dX5_takes_43 (by decide) ?_
        refine lv_isub hx hb dX5_takes_45 ?_
        refine kw_V (As := [.int (c0 - (nI 48))]) (rest := []) (C := RX5) (own := RX5) ⟨hx, hb, hml, hown, hts⟩ (c_X5_takesDigit l D cI cC cH cL a z zh tx pa wy ns nl nrd npt th nu za (c0 - (nI 48)) (by first | assumption | omega) (by first | assumption | omega)) (cwV 1 hts gX5_takes_X5_takesDigit rfl rfl rfl k_X5_takesDigit ⟨Nat.le_of_ble_eq_true rfl, Nat.le_of_ble_eq_true rfl⟩) hP hD hK hS [0, 1, 2, 3, 4, 5] [] rfl rfl (wr := []) rfl (by decide) (by decide) (by decide) (va_recv (q := (RX5, TX5, 12)) hK hP (ci := 5) (q0 := 0) rfl rfl) rfl hl.1 rfl (Nat.le_of_ble_eq_true rfl) dX5_takes_46 ⟨Nat.le_of_ble_eq_true rfl, Nat.le_of_ble_eq_true rfl⟩ (fun H locs hP hD hS => ?_)
        have hP : va_P D vwCl (MW a cI z (nI ns) zh (nI nl) tx th (upd pa (3 * nrd + npt) (tdNu nu npt (c0 - (nI 48)))) (nI nrd) (tdNu nu npt (c0 - (nI 48))) (nI npt) wy za) H := hP
        have hD : va_D (kA w0) (MW a cI z (nI ns) zh (nI nl) tx th (upd pa (3 * nrd + npt) (tdNu nu npt (c0 - (nI 48)))) (nI nrd) (tdNu nu npt (c0 - (nI 48))) (nI npt) wy za) := hD
        have e_38 : (tdB nu npt (c0 - (nI 48)) : Bool) = (okP (nrd, npt, nu, pa) c0) := by first | rfl | omega | (simp [stepP, okP, isSg, sgn, Int32.not_lt, Int32.not_le, c_4_0, Nat.ne_of_gt c_4_0, c_17_3, c_33_36]; done) | (simp [stepP, okP, isSg, sgn, Int32.not_lt, Int32.not_le, c_4_0, Nat.ne_of_gt c_4_0, c_17_3, c_33_36]; omega) | (revert c_4_0 c_17_3 c_33_36; simp +contextual [stepP, okP, isSg, sgn, Int32.not_lt, Int32.not_le]; done) | (revert c_4_0 c_17_3 c_33_36; simp +contextual [stepP, okP, isSg, sgn, Int32.not_lt, Int32.not_le]; omega)
        have ec_pa_39 : ((upd pa (3 * nrd + npt) (tdNu nu npt (c0 - (nI 48)))) : ZZ) = ((stepP (nrd, npt, nu, pa) c0).2.2.2) := by first | rfl | omega | (simp [stepP, okP, isSg, sgn, Int32.not_lt, Int32.not_le, c_4_0, Nat.ne_of_gt c_4_0, c_17_3, c_33_36]; done) | (simp [stepP, okP, isSg, sgn, Int32.not_lt, Int32.not_le, c_4_0, Nat.ne_of_gt c_4_0, c_17_3, c_33_36]; omega) | (revert c_4_0 c_17_3 c_33_36; simp +contextual [stepP, okP, isSg, sgn, Int32.not_lt, Int32.not_le]; done) | (revert c_4_0 c_17_3 c_33_36; simp +contextual [stepP, okP, isSg, sgn, Int32.not_lt, Int32.not_le]; omega)
        have ec_rd_40 : ((nI nrd) : Int32) = (nI ((stepP (nrd, npt, nu, pa) c0).1)) := by first | rfl | omega | (simp [stepP, okP, isSg, sgn, Int32.not_lt, Int32.not_le, c_4_0, Nat.ne_of_gt c_4_0, c_17_3, c_33_36]; done) | (simp [stepP, okP, isSg, sgn, Int32.not_lt, Int32.not_le, c_4_0, Nat.ne_of_gt c_4_0, c_17_3, c_33_36]; omega) | (revert c_4_0 c_17_3 c_33_36; simp +contextual [stepP, okP, isSg, sgn, Int32.not_lt, Int32.not_le]; done) | (revert c_4_0 c_17_3 c_33_36; simp +contextual [stepP, okP, isSg, sgn, Int32.not_lt, Int32.not_le]; omega)
        have ec_nu_41 : ((tdNu nu npt (c0 - (nI 48))) : Int32) = ((stepP (nrd, npt, nu, pa) c0).2.2.1) := by first | rfl | omega | (simp [stepP, okP, isSg, sgn, Int32.not_lt, Int32.not_le, c_4_0, Nat.ne_of_gt c_4_0, c_17_3, c_33_36]; done) | (simp [stepP, okP, isSg, sgn, Int32.not_lt, Int32.not_le, c_4_0, Nat.ne_of_gt c_4_0, c_17_3, c_33_36]; omega) | (revert c_4_0 c_17_3 c_33_36; simp +contextual [stepP, okP, isSg, sgn, Int32.not_lt, Int32.not_le]; done) | (revert c_4_0 c_17_3 c_33_36; simp +contextual [stepP, okP, isSg, sgn, Int32.not_lt, Int32.not_le]; omega)
        have ec_pt_42 : ((nI npt) : Int32) = (nI ((stepP (nrd, npt, nu, pa) c0).2.1)) := by first | rfl | omega | (simp [stepP, okP, isSg, sgn, Int32.not_lt, Int32.not_le, c_4_0, Nat.ne_of_gt c_4_0, c_17_3, c_33_36]; done) | (simp [stepP, okP, isSg, sgn, Int32.not_lt, Int32.not_le, c_4_0, Nat.ne_of_gt c_4_0, c_17_3, c_33_36]; omega) | (revert c_4_0 c_17_3 c_33_36; simp +contextual [stepP, okP, isSg, sgn, Int32.not_lt, Int32.not_le]; done) | (revert c_4_0 c_17_3 c_33_36; simp +contextual [stepP, okP, isSg, sgn, Int32.not_lt, Int32.not_le]; omega)
        have ew_43 : (MW a cI z (nI ns) zh (nI nl) tx th (upd pa (3 * nrd + npt) (tdNu nu npt (c0 - (nI 48)))) (nI nrd) (tdNu nu npt (c0 - (nI 48))) (nI npt) wy za : va_W) = (MW a cI z (nI ns) zh (nI nl) tx th ((stepP (nrd, npt, nu, pa) c0).2.2.2) (nI ((stepP (nrd, npt, nu, pa) c0).1)) ((stepP (nrd, npt, nu, pa) c0).2.2.1) (nI ((stepP (nrd, npt, nu, pa) c0).2.1)) wy za) := mw_c rfl rfl rfl rfl rfl rfl ec_pa_39 ec_rd_40 ec_nu_41 ec_pt_42 rfl rfl
        rw [ew_43] at hP hD
        subst hw0
        exact kq_zret hx hb hrt hlocks (congrArg bI e_38) hP hD hS dX5_takes_49
      · have c_33_37 : ¬ (nu : Int32) = (-1) := c_33_37
        refine lv_iload_n hx hb dX5_takes_36 rfl (lv_at hl 2 rfl) ?_
        refine lv_iload_n hx hb dX5_takes_37 rfl (lv_at hl 0 rfl) ?_
        refine lv_icmp_eq (tgt := 50) hx hb dX5_takes_38 (by decide) (fun c_38_44 => ?_) (fun c_38_45 => ?_)
        · have c_38_44 : (c0 : Int32) = (nI 42) := c_38_44
          refine lv_aload_n hx hb dX5_takes_50 rfl (lv_at hl 1 rfl) ?_
          refine lv_dup hx hb dX5_takes_51 rfl ?_
          refine va_get (D := D) (ci := 5) (v := .int (nI nrd)) (C := RX5) (T := TX5) (N := 12) hx hb hts iX5_takes_5 hown hK hP 0 rfl rfl 7 (by decide) (hts (.fieldLink RX5 140 "HallSightsModel" "read" "I") (List.mem_of_getElem? (i := 3) rfl)) (fun _ h9 => h9) rfl dX5_takes_52 ?_
          refine lv_aload_n hx hb dX5_takes_55 rfl (lv_at hl 1 rfl) ?_
          refine va_get (D := D) (ci := 5) (v := .int (nI npt)) (C := RX5) (T := TX5) (N := 12) hx hb hts iX5_takes_5 hown hK hP 0 rfl rfl 9 (by decide) (hts (.fieldLink RX5 137 "HallSightsModel" "part" "I") (List.mem_of_getElem? (i := 1) rfl)) (fun _ h9 => h9) rfl dX5_takes_56 ?_
          refine lv_iconst (v := nI 2) hx hb dX5_takes_59 (by decide) ?_
          refine kx_icmp_ne (tgt := 67) hx hb (by omega) (by omega) dX5_takes_60 (by decide) (fun c_60_46 => ?_) (fun c_60_47 => ?_)
          · refine lv_iconst (v := nI 0) hx hb dX5_takes_67 (by decide) ?_
            refine kx_iadd hx hb dX5_takes_68 ?_
            refine va_put (D := D) (ci := 5) (v := .int (nI (nrd + 0))) (ty := .int) (C := RX5) (T := TX5) (N := 12) hx hb hts iX5_takes_5 tyX5 tyX5_ok nmX5 hown hK hP hD hS 0 rfl rfl 7 (by decide) (hts (.fieldLink RX5 140 "HallSightsModel" "read" "I") (List.mem_of_getElem? (i := 3) rfl)) (fun _ h9 => h9) rfl (by decide +kernel) rfl rfl (Nat.le_of_ble_eq_true rfl) dX5_takes_69 (fun H locs hP hD hS => ?_)
            have hP : va_P D vwCl (MW a cI z (nI ns) zh (nI nl) tx th pa (nI (nrd + 0)) nu (nI npt) wy za) H := hP
            have hD : va_D (kA w0) (MW a cI z (nI ns) zh (nI nl) tx th pa (nI (nrd + 0)) nu (nI npt) wy za) := hD
            refine lv_aload_n hx hb dX5_takes_72 rfl (lv_at hl 1 rfl) ?_
            refine lv_aload_n hx hb dX5_takes_73 rfl (lv_at hl 1 rfl) ?_
            refine va_get (D := D) (ci := 5) (v := .int (nI npt)) (C := RX5) (T := TX5) (N := 12) hx hb hts iX5_takes_5 hown hK hP 0 rfl rfl 9 (by decide) (hts (.fieldLink RX5 137 "HallSightsModel" "part" "I") (List.mem_of_getElem? (i := 1) rfl)) (fun _ h9 => h9) rfl dX5_takes_74 ?_
            refine lv_iconst (v := nI 2) hx hb dX5_takes_77 (by decide) ?_
            refine kx_icmp_ne (tgt := 85) hx hb (by omega) (by omega) dX5_takes_78 (by decide) (fun c_78_48 => ?_) (fun c => absurd c (by omega))
            refine lv_aload_n hx hb dX5_takes_85 rfl (lv_at hl 1 rfl) ?_
            refine va_get (D := D) (ci := 5) (v := .int (nI npt)) (C := RX5) (T := TX5) (N := 12) hx hb hts iX5_takes_5 hown hK hP 0 rfl rfl 9 (by decide) (hts (.fieldLink RX5 137 "HallSightsModel" "part" "I") (List.mem_of_getElem? (i := 1) rfl)) (fun _ h9 => h9) rfl dX5_takes_86 ?_
            refine lv_iconst (v := nI 1) hx hb dX5_takes_89 (by decide) ?_
            refine kx_iadd hx hb dX5_takes_90 ?_
            refine va_put (D := D) (ci := 5) (v := .int (nI (npt + 1))) (ty := .int) (C := RX5) (T := TX5) (N := 12) hx hb hts iX5_takes_5 tyX5 tyX5_ok nmX5 hown hK hP hD hS 0 rfl rfl 9 (by decide) (hts (.fieldLink RX5 137 "HallSightsModel" "part" "I") (List.mem_of_getElem? (i := 1) rfl)) (fun _ h9 => h9) rfl (by decide +kernel) rfl rfl (Nat.le_of_ble_eq_true rfl) dX5_takes_91 (fun H locs hP hD hS => ?_)
            have hP : va_P D vwCl (MW a cI z (nI ns) zh (nI nl) tx th pa (nI (nrd + 0)) nu (nI (npt + 1)) wy za) H := hP
            have hD : va_D (kA w0) (MW a cI z (nI ns) zh (nI nl) tx th pa (nI (nrd + 0)) nu (nI (npt + 1)) wy za) := hD
            refine lv_aload_n hx hb dX5_takes_94 rfl (lv_at hl 1 rfl) ?_
            refine lv_iconst (v := (-1)) hx hb dX5_takes_95 (by decide) ?_
            refine va_put (D := D) (ci := 5) (v := .int (-1)) (ty := .int) (C := RX5) (T := TX5) (N := 12) hx hb hts iX5_takes_5 tyX5 tyX5_ok nmX5 hown hK hP hD hS 0 rfl rfl 8 (by decide) (hts (.fieldLink RX5 134 "HallSightsModel" "number" "I") (List.mem_of_getElem? (i := 2) rfl)) (fun _ h9 => h9) rfl (by decide +kernel) rfl rfl (Nat.le_of_ble_eq_true rfl) dX5_takes_96 (fun H locs hP hD hS => ?_)
            have hP : va_P D vwCl (MW a cI z (nI ns) zh (nI nl) tx th pa (nI (nrd + 0)) (-1) (nI (npt + 1)) wy za) H := hP
            have hD : va_D (kA w0) (MW a cI z (nI ns) zh (nI nl) tx th pa (nI (nrd + 0)) (-1) (nI (npt + 1)) wy za) := hD
            refine lv_iconst (v := nI 1) hx hb dX5_takes_99 (by decide) ?_
            have e_49 : (true : Bool) = (okP (nrd, npt, nu, pa) c0) := by first | rfl | omega | (simp [stepP, okP, isSg, sgn, Int32.not_lt, Int32.not_le, c_4_0, Nat.ne_of_gt c_4_0, c_17_3, c_33_37, c_38_44, c_60_46]; done) | (simp [stepP, okP, isSg, sgn, Int32.not_lt, Int32.not_le, c_4_0, Nat.ne_of_gt c_4_0, c_17_3, c_33_37, c_38_44, c_60_46]; omega) | (revert c_4_0 c_17_3 c_33_37 c_38_44 c_60_46; simp +contextual [stepP, okP, isSg, sgn, Int32.not_lt, Int32.not_le]; done) | (revert c_4_0 c_17_3 c_33_37 c_38_44 c_60_46; simp +contextual [stepP, okP, isSg, sgn, Int32.not_lt, Int32.not_le]; omega)
            have ec_pa_50 : (pa : ZZ) = ((stepP (nrd, npt, nu, pa) c0).2.2.2) := by first | rfl | omega | (simp [stepP, okP, isSg, sgn, Int32.not_lt, Int32.not_le, c_4_0, Nat.ne_of_gt c_4_0, c_17_3, c_33_37, c_38_44, c_60_46]; done) | (simp [stepP, okP, isSg, sgn, Int32.not_lt, Int32.not_le, c_4_0, Nat.ne_of_gt c_4_0, c_17_3, c_33_37, c_38_44, c_60_46]; omega) | (revert c_4_0 c_17_3 c_33_37 c_38_44 c_60_46; simp +contextual [stepP, okP, isSg, sgn, Int32.not_lt, Int32.not_le]; done) | (revert c_4_0 c_17_3 c_33_37 c_38_44 c_60_46; simp +contextual [stepP, okP, isSg, sgn, Int32.not_lt, Int32.not_le]; omega)
            have ec_rd_51 : ((nI (nrd + 0)) : Int32) = (nI ((stepP (nrd, npt, nu, pa) c0).1)) := by first | rfl | omega | (simp [stepP, okP, isSg, sgn, Int32.not_lt, Int32.not_le, c_4_0, Nat.ne_of_gt c_4_0, c_17_3, c_33_37, c_38_44, c_60_46]; done) | (simp [stepP, okP, isSg, sgn, Int32.not_lt, Int32.not_le, c_4_0, Nat.ne_of_gt c_4_0, c_17_3, c_33_37, c_38_44, c_60_46]; omega) | (revert c_4_0 c_17_3 c_33_37 c_38_44 c_60_46; simp +contextual [stepP, okP, isSg, sgn, Int32.not_lt, Int32.not_le]; done) | (revert c_4_0 c_17_3 c_33_37 c_38_44 c_60_46; simp +contextual [stepP, okP, isSg, sgn, Int32.not_lt, Int32.not_le]; omega)
            have ec_nu_52 : ((-1) : Int32) = ((stepP (nrd, npt, nu, pa) c0).2.2.1) := by first | rfl | omega | (simp [stepP, okP, isSg, sgn, Int32.not_lt, Int32.not_le, c_4_0, Nat.ne_of_gt c_4_0, c_17_3, c_33_37, c_38_44, c_60_46]; done) | (simp [stepP, okP, isSg, sgn, Int32.not_lt, Int32.not_le, c_4_0, Nat.ne_of_gt c_4_0, c_17_3, c_33_37, c_38_44, c_60_46]; omega) | (revert c_4_0 c_17_3 c_33_37 c_38_44 c_60_46; simp +contextual [stepP, okP, isSg, sgn, Int32.not_lt, Int32.not_le]; done) | (revert c_4_0 c_17_3 c_33_37 c_38_44 c_60_46; simp +contextual [stepP, okP, isSg, sgn, Int32.not_lt, Int32.not_le]; omega)
            have ec_pt_53 : ((nI (npt + 1)) : Int32) = (nI ((stepP (nrd, npt, nu, pa) c0).2.1)) := by first | rfl | omega | (simp [stepP, okP, isSg, sgn, Int32.not_lt, Int32.not_le, c_4_0, Nat.ne_of_gt c_4_0, c_17_3, c_33_37, c_38_44, c_60_46]; done) | (simp [stepP, okP, isSg, sgn, Int32.not_lt, Int32.not_le, c_4_0, Nat.ne_of_gt c_4_0, c_17_3, c_33_37, c_38_44, c_60_46]; omega) | (revert c_4_0 c_17_3 c_33_37 c_38_44 c_60_46; simp +contextual [stepP, okP, isSg, sgn, Int32.not_lt, Int32.not_le]; done) | (revert c_4_0 c_17_3 c_33_37 c_38_44 c_60_46; simp +contextual [stepP, okP, isSg, sgn, Int32.not_lt, Int32.not_le]; omega)
            have ew_54 : (MW a cI z (nI ns) zh (nI nl) tx th pa (nI (nrd + 0)) (-1) (nI (npt + 1)) wy za : va_W) = (MW a cI z (nI ns) zh (nI nl) tx th ((stepP (nrd, npt, nu, pa) c0).2.2.2) (nI ((stepP (nrd, npt, nu, pa) c0).1)) ((stepP (nrd, npt, nu, pa) c0).2.2.1) (nI ((stepP (nrd, npt, nu, pa) c0).2.1)) wy za) := mw_c rfl rfl rfl rfl rfl rfl ec_pa_50 ec_rd_51 ec_nu_52 ec_pt_53 rfl rfl
            rw [ew_54] at hP hD
            subst hw0
            exact kq_zret hx hb hrt hlocks (congrArg bI e_49) hP hD hS dX5_takes_100
          · refine lv_iconst (v := nI 1) hx hb dX5_takes_63 (by decide) ?_
            refine lv_goto (tgt := 68) hx hb dX5_takes_64 (by decide) ?_
            refine kx_iadd hx hb dX5_takes_68 ?_
            refine va_put (D := D) (ci := 5) (v := .int (nI (nrd + 1))) (ty := .int) (C := RX5) (T := TX5) (N := 12) hx hb hts iX5_takes_5 tyX5 tyX5_ok nmX5 hown hK hP hD hS 0 rfl rfl 7 (by decide) (hts (.fieldLink RX5 140 "HallSightsModel" "read" "I") (List.mem_of_getElem? (i := 3) rfl)) (fun _ h9 => h9) rfl (by decide +kernel) rfl rfl (Nat.le_of_ble_eq_true rfl) dX5_takes_69 (fun H locs hP hD hS => ?_)
            have hP : va_P D vwCl (MW a cI z (nI ns) zh (nI nl) tx th pa (nI (nrd + 1)) nu (nI npt) wy za) H := hP
            have hD : va_D (kA w0) (MW a cI z (nI ns) zh (nI nl) tx th pa (nI (nrd + 1)) nu (nI npt) wy za) := hD
            refine lv_aload_n hx hb dX5_takes_72 rfl (lv_at hl 1 rfl) ?_
            refine lv_aload_n hx hb dX5_takes_73 rfl (lv_at hl 1 rfl) ?_
            refine va_get (D := D) (ci := 5) (v := .int (nI npt)) (C := RX5) (T := TX5) (N := 12) hx hb hts iX5_takes_5 hown hK hP 0 rfl rfl 9 (by decide) (hts (.fieldLink RX5 137 "HallSightsModel" "part" "I") (List.mem_of_getElem? (i := 1) rfl)) (fun _ h9 => h9) rfl dX5_takes_74 ?_
            refine lv_iconst (v := nI 2) hx hb dX5_takes_77 (by decide) ?_
            refine kx_icmp_ne (tgt := 85) hx hb (by omega) (by omega) dX5_takes_78 (by decide) (fun c => absurd c (by omega)) (fun c_78_55 => ?_)
            refine lv_iconst (v := nI 0) hx hb dX5_takes_81 (by decide) ?_
            refine lv_goto (tgt := 91) hx hb dX5_takes_82 (by decide) ?_
            refine va_put (D := D) (ci := 5) (v := .int (nI 0)) (ty := .int) (C := RX5) (T := TX5) (N := 12) hx hb hts iX5_takes_5 tyX5 tyX5_ok nmX5 hown hK hP hD hS 0 rfl rfl 9 (by decide) (hts (.fieldLink RX5 137 "HallSightsModel" "part" "I") (List.mem_of_getElem? (i := 1) rfl)) (fun _ h9 => h9) rfl (by decide +kernel) rfl rfl (Nat.le_of_ble_eq_true rfl) dX5_takes_91 (fun H locs hP hD hS => ?_)
            have hP : va_P D vwCl (MW a cI z (nI ns) zh (nI nl) tx th pa (nI (nrd + 1)) nu (nI 0) wy za) H := hP
            have hD : va_D (kA w0) (MW a cI z (nI ns) zh (nI nl) tx th pa (nI (nrd + 1)) nu (nI 0) wy za) := hD
            refine lv_aload_n hx hb dX5_takes_94 rfl (lv_at hl 1 rfl) ?_
            refine lv_iconst (v := (-1)) hx hb dX5_takes_95 (by decide) ?_
            refine va_put (D := D) (ci := 5) (v := .int (-1)) (ty := .int) (C := RX5) (T := TX5) (N := 12) hx hb hts iX5_takes_5 tyX5 tyX5_ok nmX5 hown hK hP hD hS 0 rfl rfl 8 (by decide) (hts (.fieldLink RX5 134 "HallSightsModel" "number" "I") (List.mem_of_getElem? (i := 2) rfl)) (fun _ h9 => h9) rfl (by decide +kernel) rfl rfl (Nat.le_of_ble_eq_true rfl) dX5_takes_96 (fun H locs hP hD hS => ?_)
            have hP : va_P D vwCl (MW a cI z (nI ns) zh (nI nl) tx th pa (nI (nrd + 1)) (-1) (nI 0) wy za) H := hP
            have hD : va_D (kA w0) (MW a cI z (nI ns) zh (nI nl) tx th pa (nI (nrd + 1)) (-1) (nI 0) wy za) := hD
            refine lv_iconst (v := nI 1) hx hb dX5_takes_99 (by decide) ?_
            have e_56 : (true : Bool) = (okP (nrd, npt, nu, pa) c0) := by first | rfl | omega | (simp [stepP, okP, isSg, sgn, Int32.not_lt, Int32.not_le, c_4_0, Nat.ne_of_gt c_4_0, c_17_3, c_33_37, c_38_44, c_60_47]; done) | (simp [stepP, okP, isSg, sgn, Int32.not_lt, Int32.not_le, c_4_0, Nat.ne_of_gt c_4_0, c_17_3, c_33_37, c_38_44, c_60_47]; omega) | (revert c_4_0 c_17_3 c_33_37 c_38_44 c_60_47; simp +contextual [stepP, okP, isSg, sgn, Int32.not_lt, Int32.not_le]; done) | (revert c_4_0 c_17_3 c_33_37 c_38_44 c_60_47; simp +contextual [stepP, okP, isSg, sgn, Int32.not_lt, Int32.not_le]; omega)
            have ec_pa_57 : (pa : ZZ) = ((stepP (nrd, npt, nu, pa) c0).2.2.2) := by first | rfl | omega | (simp [stepP, okP, isSg, sgn, Int32.not_lt, Int32.not_le, c_4_0, Nat.ne_of_gt c_4_0, c_17_3, c_33_37, c_38_44, c_60_47]; done) | (simp [stepP, okP, isSg, sgn, Int32.not_lt, Int32.not_le, c_4_0, Nat.ne_of_gt c_4_0, c_17_3, c_33_37, c_38_44, c_60_47]; omega) | (revert c_4_0 c_17_3 c_33_37 c_38_44 c_60_47; simp +contextual [stepP, okP, isSg, sgn, Int32.not_lt, Int32.not_le]; done) | (revert c_4_0 c_17_3 c_33_37 c_38_44 c_60_47; simp +contextual [stepP, okP, isSg, sgn, Int32.not_lt, Int32.not_le]; omega)
            have ec_rd_58 : ((nI (nrd + 1)) : Int32) = (nI ((stepP (nrd, npt, nu, pa) c0).1)) := by first | rfl | omega | (simp [stepP, okP, isSg, sgn, Int32.not_lt, Int32.not_le, c_4_0, Nat.ne_of_gt c_4_0, c_17_3, c_33_37, c_38_44, c_60_47]; done) | (simp [stepP, okP, isSg, sgn, Int32.not_lt, Int32.not_le, c_4_0, Nat.ne_of_gt c_4_0, c_17_3, c_33_37, c_38_44, c_60_47]; omega) | (revert c_4_0 c_17_3 c_33_37 c_38_44 c_60_47; simp +contextual [stepP, okP, isSg, sgn, Int32.not_lt, Int32.not_le]; done) | (revert c_4_0 c_17_3 c_33_37 c_38_44 c_60_47; simp +contextual [stepP, okP, isSg, sgn, Int32.not_lt, Int32.not_le]; omega)
            have ec_nu_59 : ((-1) : Int32) = ((stepP (nrd, npt, nu, pa) c0).2.2.1) := by first | rfl | omega | (simp [stepP, okP, isSg, sgn, Int32.not_lt, Int32.not_le, c_4_0, Nat.ne_of_gt c_4_0, c_17_3, c_33_37, c_38_44, c_60_47]; done) | (simp [stepP, okP, isSg, sgn, Int32.not_lt, Int32.not_le, c_4_0, Nat.ne_of_gt c_4_0, c_17_3, c_33_37, c_38_44, c_60_47]; omega) | (revert c_4_0 c_17_3 c_33_37 c_38_44 c_60_47; simp +contextual [stepP, okP, isSg, sgn, Int32.not_lt, Int32.not_le]; done) | (revert c_4_0 c_17_3 c_33_37 c_38_44 c_60_47; simp +contextual [stepP, okP, isSg, sgn, Int32.not_lt, Int32.not_le]; omega)
            have ec_pt_60 : ((nI 0) : Int32) = (nI ((stepP (nrd, npt, nu, pa) c0).2.1)) := by first | rfl | omega | (simp [stepP, okP, isSg, sgn, Int32.not_lt, Int32.not_le, c_4_0, Nat.ne_of_gt c_4_0, c_17_3, c_33_37, c_38_44, c_60_47]; done) | (simp [stepP, okP, isSg, sgn, Int32.not_lt, Int32.not_le, c_4_0, Nat.ne_of_gt c_4_0, c_17_3, c_33_37, c_38_44, c_60_47]; omega) | (revert c_4_0 c_17_3 c_33_37 c_38_44 c_60_47; simp +contextual [stepP, okP, isSg, sgn, Int32.not_lt, Int32.not_le]; done) | (revert c_4_0 c_17_3 c_33_37 c_38_44 c_60_47; simp +contextual [stepP, okP, isSg, sgn, Int32.not_lt, Int32.not_le]; omega)
            have ew_61 : (MW a cI z (nI ns) zh (nI nl) tx th pa (nI (nrd + 1)) (-1) (nI 0) wy za : va_W) = (MW a cI z (nI ns) zh (nI nl) tx th ((stepP (nrd, npt, nu, pa) c0).2.2.2) (nI ((stepP (nrd, npt, nu, pa) c0).1)) ((stepP (nrd, npt, nu, pa) c0).2.2.1) (nI ((stepP (nrd, npt, nu, pa) c0).2.1)) wy za) := mw_c rfl rfl rfl rfl rfl rfl ec_pa_57 ec_rd_58 ec_nu_59 ec_pt_60 rfl rfl
            rw [ew_61] at hP hD
            subst hw0
            exact kq_zret hx hb hrt hlocks (congrArg bI e_56) hP hD hS dX5_takes_100
        · have c_38_45 : ¬ (c0 : Int32) = (nI 42) := c_38_45
          refine lv_aload_n hx hb dX5_takes_41 rfl (lv_at hl 1 rfl) ?_
          refine lv_iload_n hx hb dX5_takes_42 rfl (lv_at hl 2 rfl) ?_
          refine lv_bipush (v := nI 48) hx hb dX5_takes_43 (by decide) ?_
          refine lv_isub hx hb dX5_takes_45 ?_
          refine kw_V (As := [.int (c0 - (nI 48))]) (rest := []) (C := RX5) (own := RX5) ⟨hx, hb, hml, hown, hts⟩ (c_X5_takesDigit l D cI cC cH cL a z zh tx pa wy ns nl nrd npt th nu za (c0 - (nI 48)) (by first | assumption | omega) (by first | assumption | omega)) (cwV 1 hts gX5_takes_X5_takesDigit rfl rfl rfl k_X5_takesDigit ⟨Nat.le_of_ble_eq_true rfl, Nat.le_of_ble_eq_true rfl⟩) hP hD hK hS [0, 1, 2, 3, 4, 5] [] rfl rfl (wr := []) rfl (by decide) (by decide) (by decide) (va_recv (q := (RX5, TX5, 12)) hK hP (ci := 5) (q0 := 0) rfl rfl) rfl hl.1 rfl (Nat.le_of_ble_eq_true rfl) dX5_takes_46 ⟨Nat.le_of_ble_eq_true rfl, Nat.le_of_ble_eq_true rfl⟩ (fun H locs hP hD hS => ?_)
          have hP : va_P D vwCl (MW a cI z (nI ns) zh (nI nl) tx th (upd pa (3 * nrd + npt) (tdNu nu npt (c0 - (nI 48)))) (nI nrd) (tdNu nu npt (c0 - (nI 48))) (nI npt) wy za) H := hP
          have hD : va_D (kA w0) (MW a cI z (nI ns) zh (nI nl) tx th (upd pa (3 * nrd + npt) (tdNu nu npt (c0 - (nI 48)))) (nI nrd) (tdNu nu npt (c0 - (nI 48))) (nI npt) wy za) := hD
          have e_62 : (tdB nu npt (c0 - (nI 48)) : Bool) = (okP (nrd, npt, nu, pa) c0) := by first | rfl | omega | (simp [stepP, okP, isSg, sgn, Int32.not_lt, Int32.not_le, c_4_0, Nat.ne_of_gt c_4_0, c_17_3, c_33_37, c_38_45]; done) | (simp [stepP, okP, isSg, sgn, Int32.not_lt, Int32.not_le, c_4_0, Nat.ne_of_gt c_4_0, c_17_3, c_33_37, c_38_45]; omega) | (revert c_4_0 c_17_3 c_33_37 c_38_45; simp +contextual [stepP, okP, isSg, sgn, Int32.not_lt, Int32.not_le]; done) | (revert c_4_0 c_17_3 c_33_37 c_38_45; simp +contextual [stepP, okP, isSg, sgn, Int32.not_lt, Int32.not_le]; omega)
          have ec_pa_63 : ((upd pa (3 * nrd + npt) (tdNu nu npt (c0 - (nI 48)))) : ZZ) = ((stepP (nrd, npt, nu, pa) c0).2.2.2) := by first | rfl | omega | (simp [stepP, okP, isSg, sgn, Int32.not_lt, Int32.not_le, c_4_0, Nat.ne_of_gt c_4_0, c_17_3, c_33_37, c_38_45]; done) | (simp [stepP, okP, isSg, sgn, Int32.not_lt, Int32.not_le, c_4_0, Nat.ne_of_gt c_4_0, c_17_3, c_33_37, c_38_45]; omega) | (revert c_4_0 c_17_3 c_33_37 c_38_45; simp +contextual [stepP, okP, isSg, sgn, Int32.not_lt, Int32.not_le]; done) | (revert c_4_0 c_17_3 c_33_37 c_38_45; simp +contextual [stepP, okP, isSg, sgn, Int32.not_lt, Int32.not_le]; omega)
          have ec_rd_64 : ((nI nrd) : Int32) = (nI ((stepP (nrd, npt, nu, pa) c0).1)) := by first | rfl | omega | (simp [stepP, okP, isSg, sgn, Int32.not_lt, Int32.not_le, c_4_0, Nat.ne_of_gt c_4_0, c_17_3, c_33_37, c_38_45]; done) | (simp [stepP, okP, isSg, sgn, Int32.not_lt, Int32.not_le, c_4_0, Nat.ne_of_gt c_4_0, c_17_3, c_33_37, c_38_45]; omega) | (revert c_4_0 c_17_3 c_33_37 c_38_45; simp +contextual [stepP, okP, isSg, sgn, Int32.not_lt, Int32.not_le]; done) | (revert c_4_0 c_17_3 c_33_37 c_38_45; simp +contextual [stepP, okP, isSg, sgn, Int32.not_lt, Int32.not_le]; omega)
          have ec_nu_65 : ((tdNu nu npt (c0 - (nI 48))) : Int32) = ((stepP (nrd, npt, nu, pa) c0).2.2.1) := by first | rfl | omega | (simp [stepP, okP, isSg, sgn, Int32.not_lt, Int32.not_le, c_4_0, Nat.ne_of_gt c_4_0, c_17_3, c_33_37, c_38_45]; done) | (simp [stepP, okP, isSg, sgn, Int32.not_lt, Int32.not_le, c_4_0, Nat.ne_of_gt c_4_0, c_17_3, c_33_37, c_38_45]; omega) | (revert c_4_0 c_17_3 c_33_37 c_38_45; simp +contextual [stepP, okP, isSg, sgn, Int32.not_lt, Int32.not_le]; done) | (revert c_4_0 c_17_3 c_33_37 c_38_45; simp +contextual [stepP, okP, isSg, sgn, Int32.not_lt, Int32.not_le]; omega)
          have ec_pt_66 : ((nI npt) : Int32) = (nI ((stepP (nrd, npt, nu, pa) c0).2.1)) := by first | rfl | omega | (simp [stepP, okP, isSg, sgn, Int32.not_lt, Int32.not_le, c_4_0, Nat.ne_of_gt c_4_0, c_17_3, c_33_37, c_38_45]; done) | (simp [stepP, okP, isSg, sgn, Int32.not_lt, Int32.not_le, c_4_0, Nat.ne_of_gt c_4_0, c_17_3, c_33_37, c_38_45]; omega) | (revert c_4_0 c_17_3 c_33_37 c_38_45; simp +contextual [stepP, okP, isSg, sgn, Int32.not_lt, Int32.not_le]; done) | (revert c_4_0 c_17_3 c_33_37 c_38_45; simp +contextual [stepP, okP, isSg, sgn, Int32.not_lt, Int32.not_le]; omega)
          have ew_67 : (MW a cI z (nI ns) zh (nI nl) tx th (upd pa (3 * nrd + npt) (tdNu nu npt (c0 - (nI 48)))) (nI nrd) (tdNu nu npt (c0 - (nI 48))) (nI npt) wy za : va_W) = (MW a cI z (nI ns) zh (nI nl) tx th ((stepP (nrd, npt, nu, pa) c0).2.2.2) (nI ((stepP (nrd, npt, nu, pa) c0).1)) ((stepP (nrd, npt, nu, pa) c0).2.2.1) (nI ((stepP (nrd, npt, nu, pa) c0).2.1)) wy za) := mw_c rfl rfl rfl rfl rfl rfl ec_pa_63 ec_rd_64 ec_nu_65 ec_pt_66 rfl rfl
          rw [ew_67] at hP hD
          subst hw0
          exact kq_zret hx hb hrt hlocks (congrArg bI e_62) hP hD hS dX5_takes_49
  · refine lv_bipush (v := nI 94) hx hb dX5_takes_7 (by decide) ?_
    refine lv_goto (tgt := 27) hx hb dX5_takes_9 (by decide) ?_
    refine lv_istore_n (lv' := [(2, .int (nI 94)), (0, .ref (a 0)), (1, .int c0)]) hx hb dX5_takes_27 rfl hl (by decide) rfl (fun ls hl => ?_)
    refine lv_aload_n hx hb dX5_takes_28 rfl (lv_at hl 1 rfl) ?_
    refine va_get (D := D) (ci := 5) (v := .int nu) (C := RX5) (T := TX5) (N := 12) hx hb hts iX5_takes_5 hown hK hP 0 rfl rfl 8 (by decide) (hts (.fieldLink RX5 134 "HallSightsModel" "number" "I") (List.mem_of_getElem? (i := 2) rfl)) (fun _ h9 => h9) rfl dX5_takes_29 ?_
    refine lv_iconst (v := (-1)) hx hb dX5_takes_32 (by decide) ?_
    refine lv_icmp_eq (tgt := 41) hx hb dX5_takes_33 (by decide) (fun c_33_68 => ?_) (fun c_33_69 => ?_)
    · have c_33_68 : (nu : Int32) = (-1) := c_33_68
      refine lv_aload_n hx hb dX5_takes_41 rfl (lv_at hl 1 rfl) ?_
      refine lv_iload_n hx hb dX5_takes_42 rfl (lv_at hl 2 rfl) ?_
      refine lv_bipush (v := nI 48) hx hb dX5_takes_43 (by decide) ?_
      refine lv_isub hx hb dX5_takes_45 ?_
      refine kw_V (As := [.int (c0 - (nI 48))]) (rest := []) (C := RX5) (own := RX5) ⟨hx, hb, hml, hown, hts⟩ (c_X5_takesDigit l D cI cC cH cL a z zh tx pa wy ns nl nrd npt th nu za (c0 - (nI 48)) (by first | assumption | omega) (by first | assumption | omega)) (cwV 1 hts gX5_takes_X5_takesDigit rfl rfl rfl k_X5_takesDigit ⟨Nat.le_of_ble_eq_true rfl, Nat.le_of_ble_eq_true rfl⟩) hP hD hK hS [0, 1, 2, 3, 4, 5] [] rfl rfl (wr := []) rfl (by decide) (by decide) (by decide) (va_recv (q := (RX5, TX5, 12)) hK hP (ci := 5) (q0 := 0) rfl rfl) rfl hl.1 rfl (Nat.le_of_ble_eq_true rfl) dX5_takes_46 ⟨Nat.le_of_ble_eq_true rfl, Nat.le_of_ble_eq_true rfl⟩ (fun H locs hP hD hS => ?_)
      have hP : va_P D vwCl (MW a cI z (nI ns) zh (nI nl) tx th (upd pa (3 * nrd + npt) (tdNu nu npt (c0 - (nI 48)))) (nI nrd) (tdNu nu npt (c0 - (nI 48))) (nI npt) wy za) H := hP
      have hD : va_D (kA w0) (MW a cI z (nI ns) zh (nI nl) tx th (upd pa (3 * nrd + npt) (tdNu nu npt (c0 - (nI 48)))) (nI nrd) (tdNu nu npt (c0 - (nI 48))) (nI npt) wy za) := hD
      have e_70 : (tdB nu npt (c0 - (nI 48)) : Bool) = (okP (nrd, npt, nu, pa) c0) := by first | rfl | omega | (simp [stepP, okP, isSg, sgn, Int32.not_lt, Int32.not_le, c_4_1, c_33_68]; done) | (simp [stepP, okP, isSg, sgn, Int32.not_lt, Int32.not_le, c_4_1, c_33_68]; omega) | (revert c_4_1 c_33_68; simp +contextual [stepP, okP, isSg, sgn, Int32.not_lt, Int32.not_le]; done) | (revert c_4_1 c_33_68; simp +contextual [stepP, okP, isSg, sgn, Int32.not_lt, Int32.not_le]; omega)
      have ec_pa_71 : ((upd pa (3 * nrd + npt) (tdNu nu npt (c0 - (nI 48)))) : ZZ) = ((stepP (nrd, npt, nu, pa) c0).2.2.2) := by first | rfl | omega | (simp [stepP, okP, isSg, sgn, Int32.not_lt, Int32.not_le, c_4_1, c_33_68]; done) | (simp [stepP, okP, isSg, sgn, Int32.not_lt, Int32.not_le, c_4_1, c_33_68]; omega) | (revert c_4_1 c_33_68; simp +contextual [stepP, okP, isSg, sgn, Int32.not_lt, Int32.not_le]; done) | (revert c_4_1 c_33_68; simp +contextual [stepP, okP, isSg, sgn, Int32.not_lt, Int32.not_le]; omega)
      have ec_rd_72 : ((nI nrd) : Int32) = (nI ((stepP (nrd, npt, nu, pa) c0).1)) := by first | rfl | omega | (simp [stepP, okP, isSg, sgn, Int32.not_lt, Int32.not_le, c_4_1, c_33_68]; done) | (simp [stepP, okP, isSg, sgn, Int32.not_lt, Int32.not_le, c_4_1, c_33_68]; omega) | (revert c_4_1 c_33_68; simp +contextual [stepP, okP, isSg, sgn, Int32.not_lt, Int32.not_le]; done) | (revert c_4_1 c_33_68; simp +contextual [stepP, okP, isSg, sgn, Int32.not_lt, Int32.not_le]; omega)
      have ec_nu_73 : ((tdNu nu npt (c0 - (nI 48))) : Int32) = ((stepP (nrd, npt, nu, pa) c0).2.2.1) := by first | rfl | omega | (simp [stepP, okP, isSg, sgn, Int32.not_lt, Int32.not_le, c_4_1, c_33_68]; done) | (simp [stepP, okP, isSg, sgn, Int32.not_lt, Int32.not_le, c_4_1, c_33_68]; omega) | (revert c_4_1 c_33_68; simp +contextual [stepP, okP, isSg, sgn, Int32.not_lt, Int32.not_le]; done) | (revert c_4_1 c_33_68; simp +contextual [stepP, okP, isSg, sgn, Int32.not_lt, Int32.not_le]; omega)
      have ec_pt_74 : ((nI npt) : Int32) = (nI ((stepP (nrd, npt, nu, pa) c0).2.1)) := by first | rfl | omega | (simp [stepP, okP, isSg, sgn, Int32.not_lt, Int32.not_le, c_4_1, c_33_68]; done) | (simp [stepP, okP, isSg, sgn, Int32.not_lt, Int32.not_le, c_4_1, c_33_68]; omega) | (revert c_4_1 c_33_68; simp +contextual [stepP, okP, isSg, sgn, Int32.not_lt, Int32.not_le]; done) | (revert c_4_1 c_33_68; simp +contextual [stepP, okP, isSg, sgn, Int32.not_lt, Int32.not_le]; omega)
      have ew_75 : (MW a cI z (nI ns) zh (nI nl) tx th (upd pa (3 * nrd + npt) (tdNu nu npt (c0 - (nI 48)))) (nI nrd) (tdNu nu npt (c0 - (nI 48))) (nI npt) wy za : va_W) = (MW a cI z (nI ns) zh (nI nl) tx th ((stepP (nrd, npt, nu, pa) c0).2.2.2) (nI ((stepP (nrd, npt, nu, pa) c0).1)) ((stepP (nrd, npt, nu, pa) c0).2.2.1) (nI ((stepP (nrd, npt, nu, pa) c0).2.1)) wy za) := mw_c rfl rfl rfl rfl rfl rfl ec_pa_71 ec_rd_72 ec_nu_73 ec_pt_74 rfl rfl
      rw [ew_75] at hP hD
      subst hw0
      exact kq_zret hx hb hrt hlocks (congrArg bI e_70) hP hD hS dX5_takes_49
    · have c_33_69 : ¬ (nu : Int32) = (-1) := c_33_69
      refine lv_iload_n hx hb dX5_takes_36 rfl (lv_at hl 2 rfl) ?_
      refine lv_iload_n hx hb dX5_takes_37 rfl (lv_at hl 0 rfl) ?_
      refine lv_icmp_eq (tgt := 50) hx hb dX5_takes_38 (by decide) (fun c_38_76 => ?_) (fun c_38_77 => ?_)
      · have c_38_76 : (c0 : Int32) = (nI 94) := c_38_76
        refine lv_aload_n hx hb dX5_takes_50 rfl (lv_at hl 1 rfl) ?_
        refine lv_dup hx hb dX5_takes_51 rfl ?_
        refine va_get (D := D) (ci := 5) (v := .int (nI nrd)) (C := RX5) (T := TX5) (N := 12) hx hb hts iX5_takes_5 hown hK hP 0 rfl rfl 7 (by decide) (hts (.fieldLink RX5 140 "HallSightsModel" "read" "I") (List.mem_of_getElem? (i := 3) rfl)) (fun _ h9 => h9) rfl dX5_takes_52 ?_
        refine lv_aload_n hx hb dX5_takes_55 rfl (lv_at hl 1 rfl) ?_
        refine va_get (D := D) (ci := 5) (v := .int (nI npt)) (C := RX5) (T := TX5) (N := 12) hx hb hts iX5_takes_5 hown hK hP 0 rfl rfl 9 (by decide) (hts (.fieldLink RX5 137 "HallSightsModel" "part" "I") (List.mem_of_getElem? (i := 1) rfl)) (fun _ h9 => h9) rfl dX5_takes_56 ?_
        refine lv_iconst (v := nI 2) hx hb dX5_takes_59 (by decide) ?_
        refine kx_icmp_ne (tgt := 67) hx hb (by omega) (by omega) dX5_takes_60 (by decide) (fun c_60_78 => ?_) (fun c_60_79 => ?_)
        · refine lv_iconst (v := nI 0) hx hb dX5_takes_67 (by decide) ?_
          refine kx_iadd hx hb dX5_takes_68 ?_
          refine va_put (D := D) (ci := 5) (v := .int (nI (nrd + 0))) (ty := .int) (C := RX5) (T := TX5) (N := 12) hx hb hts iX5_takes_5 tyX5 tyX5_ok nmX5 hown hK hP hD hS 0 rfl rfl 7 (by decide) (hts (.fieldLink RX5 140 "HallSightsModel" "read" "I") (List.mem_of_getElem? (i := 3) rfl)) (fun _ h9 => h9) rfl (by decide +kernel) rfl rfl (Nat.le_of_ble_eq_true rfl) dX5_takes_69 (fun H locs hP hD hS => ?_)
          have hP : va_P D vwCl (MW a cI z (nI ns) zh (nI nl) tx th pa (nI (nrd + 0)) nu (nI npt) wy za) H := hP
          have hD : va_D (kA w0) (MW a cI z (nI ns) zh (nI nl) tx th pa (nI (nrd + 0)) nu (nI npt) wy za) := hD
          refine lv_aload_n hx hb dX5_takes_72 rfl (lv_at hl 1 rfl) ?_
          refine lv_aload_n hx hb dX5_takes_73 rfl (lv_at hl 1 rfl) ?_
          refine va_get (D := D) (ci := 5) (v := .int (nI npt)) (C := RX5) (T := TX5) (N := 12) hx hb hts iX5_takes_5 hown hK hP 0 rfl rfl 9 (by decide) (hts (.fieldLink RX5 137 "HallSightsModel" "part" "I") (List.mem_of_getElem? (i := 1) rfl)) (fun _ h9 => h9) rfl dX5_takes_74 ?_
          refine lv_iconst (v := nI 2) hx hb dX5_takes_77 (by decide) ?_
          refine kx_icmp_ne (tgt := 85) hx hb (by omega) (by omega) dX5_takes_78 (by decide) (fun c_78_80 => ?_) (fun c => absurd c (by omega))
          refine lv_aload_n hx hb dX5_takes_85 rfl (lv_at hl 1 rfl) ?_
          refine va_get (D := D) (ci := 5) (v := .int (nI npt)) (C := RX5) (T := TX5) (N := 12) hx hb hts iX5_takes_5 hown hK hP 0 rfl rfl 9 (by decide) (hts (.fieldLink RX5 137 "HallSightsModel" "part" "I") (List.mem_of_getElem? (i := 1) rfl)) (fun _ h9 => h9) rfl dX5_takes_86 ?_
          refine lv_iconst (v := nI 1) hx hb dX5_takes_89 (by decide) ?_
          refine kx_iadd hx hb dX5_takes_90 ?_
          refine va_put (D := D) (ci := 5) (v := .int (nI (npt + 1))) (ty := .int) (C := RX5) (T := TX5) (N := 12) hx hb hts iX5_takes_5 tyX5 tyX5_ok nmX5 hown hK hP hD hS 0 rfl rfl 9 (by decide) (hts (.fieldLink RX5 137 "HallSightsModel" "part" "I") (List.mem_of_getElem? (i := 1) rfl)) (fun _ h9 => h9) rfl (by decide +kernel) rfl rfl (Nat.le_of_ble_eq_true rfl) dX5_takes_91 (fun H locs hP hD hS => ?_)
          have hP : va_P D vwCl (MW a cI z (nI ns) zh (nI nl) tx th pa (nI (nrd + 0)) nu (nI (npt + 1)) wy za) H := hP
          have hD : va_D (kA w0) (MW a cI z (nI ns) zh (nI nl) tx th pa (nI (nrd + 0)) nu (nI (npt + 1)) wy za) := hD
          refine lv_aload_n hx hb dX5_takes_94 rfl (lv_at hl 1 rfl) ?_
          refine lv_iconst (v := (-1)) hx hb dX5_takes_95 (by decide) ?_
          refine va_put (D := D) (ci := 5) (v := .int (-1)) (ty := .int) (C := RX5) (T := TX5) (N := 12) hx hb hts iX5_takes_5 tyX5 tyX5_ok nmX5 hown hK hP hD hS 0 rfl rfl 8 (by decide) (hts (.fieldLink RX5 134 "HallSightsModel" "number" "I") (List.mem_of_getElem? (i := 2) rfl)) (fun _ h9 => h9) rfl (by decide +kernel) rfl rfl (Nat.le_of_ble_eq_true rfl) dX5_takes_96 (fun H locs hP hD hS => ?_)
          have hP : va_P D vwCl (MW a cI z (nI ns) zh (nI nl) tx th pa (nI (nrd + 0)) (-1) (nI (npt + 1)) wy za) H := hP
          have hD : va_D (kA w0) (MW a cI z (nI ns) zh (nI nl) tx th pa (nI (nrd + 0)) (-1) (nI (npt + 1)) wy za) := hD
          refine lv_iconst (v := nI 1) hx hb dX5_takes_99 (by decide) ?_
          have e_81 : (true : Bool) = (okP (nrd, npt, nu, pa) c0) := by first | rfl | omega | (simp [stepP, okP, isSg, sgn, Int32.not_lt, Int32.not_le, c_4_1, c_33_69, c_38_76, c_60_78]; done) | (simp [stepP, okP, isSg, sgn, Int32.not_lt, Int32.not_le, c_4_1, c_33_69, c_38_76, c_60_78]; omega) | (revert c_4_1 c_33_69 c_38_76 c_60_78; simp +contextual [stepP, okP, isSg, sgn, Int32.not_lt, Int32.not_le]; done) | (revert c_4_1 c_33_69 c_38_76 c_60_78; simp +contextual [stepP, okP, isSg, sgn, Int32.not_lt, Int32.not_le]; omega)
          have ec_pa_82 : (pa : ZZ) = ((stepP (nrd, npt, nu, pa) c0).2.2.2) := by first | rfl | omega | (simp [stepP, okP, isSg, sgn, Int32.not_lt, Int32.not_le, c_4_1, c_33_69, c_38_76, c_60_78]; done) | (simp [stepP, okP, isSg, sgn, Int32.not_lt, Int32.not_le, c_4_1, c_33_69, c_38_76, c_60_78]; omega) | (revert c_4_1 c_33_69 c_38_76 c_60_78; simp +contextual [stepP, okP, isSg, sgn, Int32.not_lt, Int32.not_le]; done) | (revert c_4_1 c_33_69 c_38_76 c_60_78; simp +contextual [stepP, okP, isSg, sgn, Int32.not_lt, Int32.not_le]; omega)
          have ec_rd_83 : ((nI (nrd + 0)) : Int32) = (nI ((stepP (nrd, npt, nu, pa) c0).1)) := by first | rfl | omega | (simp [stepP, okP, isSg, sgn, Int32.not_lt, Int32.not_le, c_4_1, c_33_69, c_38_76, c_60_78]; done) | (simp [stepP, okP, isSg, sgn, Int32.not_lt, Int32.not_le, c_4_1, c_33_69, c_38_76, c_60_78]; omega) | (revert c_4_1 c_33_69 c_38_76 c_60_78; simp +contextual [stepP, okP, isSg, sgn, Int32.not_lt, Int32.not_le]; done) | (revert c_4_1 c_33_69 c_38_76 c_60_78; simp +contextual [stepP, okP, isSg, sgn, Int32.not_lt, Int32.not_le]; omega)
          have ec_nu_84 : ((-1) : Int32) = ((stepP (nrd, npt, nu, pa) c0).2.2.1) := by first | rfl | omega | (simp [stepP, okP, isSg, sgn, Int32.not_lt, Int32.not_le, c_4_1, c_33_69, c_38_76, c_60_78]; done) | (simp [stepP, okP, isSg, sgn, Int32.not_lt, Int32.not_le, c_4_1, c_33_69, c_38_76, c_60_78]; omega) | (revert c_4_1 c_33_69 c_38_76 c_60_78; simp +contextual [stepP, okP, isSg, sgn, Int32.not_lt, Int32.not_le]; done) | (revert c_4_1 c_33_69 c_38_76 c_60_78; simp +contextual [stepP, okP, isSg, sgn, Int32.not_lt, Int32.not_le]; omega)
          have ec_pt_85 : ((nI (npt + 1)) : Int32) = (nI ((stepP (nrd, npt, nu, pa) c0).2.1)) := by first | rfl | omega | (simp [stepP, okP, isSg, sgn, Int32.not_lt, Int32.not_le, c_4_1, c_33_69, c_38_76, c_60_78]; done) | (simp [stepP, okP, isSg, sgn, Int32.not_lt, Int32.not_le, c_4_1, c_33_69, c_38_76, c_60_78]; omega) | (revert c_4_1 c_33_69 c_38_76 c_60_78; simp +contextual [stepP, okP, isSg, sgn, Int32.not_lt, Int32.not_le]; done) | (revert c_4_1 c_33_69 c_38_76 c_60_78; simp +contextual [stepP, okP, isSg, sgn, Int32.not_lt, Int32.not_le]; omega)
          have ew_86 : (MW a cI z (nI ns) zh (nI nl) tx th pa (nI (nrd + 0)) (-1) (nI (npt + 1)) wy za : va_W) = (MW a cI z (nI ns) zh (nI nl) tx th ((stepP (nrd, npt, nu, pa) c0).2.2.2) (nI ((stepP (nrd, npt, nu, pa) c0).1)) ((stepP (nrd, npt, nu, pa) c0).2.2.1) (nI ((stepP (nrd, npt, nu, pa) c0).2.1)) wy za) := mw_c rfl rfl rfl rfl rfl rfl ec_pa_82 ec_rd_83 ec_nu_84 ec_pt_85 rfl rfl
          rw [ew_86] at hP hD
          subst hw0
          exact kq_zret hx hb hrt hlocks (congrArg bI e_81) hP hD hS dX5_takes_100
        · refine lv_iconst (v := nI 1) hx hb dX5_takes_63 (by decide) ?_
          refine lv_goto (tgt := 68) hx hb dX5_takes_64 (by decide) ?_
          refine kx_iadd hx hb dX5_takes_68 ?_
          refine va_put (D := D) (ci := 5) (v := .int (nI (nrd + 1))) (ty := .int) (C := RX5) (T := TX5) (N := 12) hx hb hts iX5_takes_5 tyX5 tyX5_ok nmX5 hown hK hP hD hS 0 rfl rfl 7 (by decide) (hts (.fieldLink RX5 140 "HallSightsModel" "read" "I") (List.mem_of_getElem? (i := 3) rfl)) (fun _ h9 => h9) rfl (by decide +kernel) rfl rfl (Nat.le_of_ble_eq_true rfl) dX5_takes_69 (fun H locs hP hD hS => ?_)
          have hP : va_P D vwCl (MW a cI z (nI ns) zh (nI nl) tx th pa (nI (nrd + 1)) nu (nI npt) wy za) H := hP
          have hD : va_D (kA w0) (MW a cI z (nI ns) zh (nI nl) tx th pa (nI (nrd + 1)) nu (nI npt) wy za) := hD
          refine lv_aload_n hx hb dX5_takes_72 rfl (lv_at hl 1 rfl) ?_
          refine lv_aload_n hx hb dX5_takes_73 rfl (lv_at hl 1 rfl) ?_
          refine va_get (D := D) (ci := 5) (v := .int (nI npt)) (C := RX5) (T := TX5) (N := 12) hx hb hts iX5_takes_5 hown hK hP 0 rfl rfl 9 (by decide) (hts (.fieldLink RX5 137 "HallSightsModel" "part" "I") (List.mem_of_getElem? (i := 1) rfl)) (fun _ h9 => h9) rfl dX5_takes_74 ?_
          refine lv_iconst (v := nI 2) hx hb dX5_takes_77 (by decide) ?_
          refine kx_icmp_ne (tgt := 85) hx hb (by omega) (by omega) dX5_takes_78 (by decide) (fun c => absurd c (by omega)) (fun c_78_87 => ?_)
          refine lv_iconst (v := nI 0) hx hb dX5_takes_81 (by decide) ?_
          refine lv_goto (tgt := 91) hx hb dX5_takes_82 (by decide) ?_
          refine va_put (D := D) (ci := 5) (v := .int (nI 0)) (ty := .int) (C := RX5) (T := TX5) (N := 12) hx hb hts iX5_takes_5 tyX5 tyX5_ok nmX5 hown hK hP hD hS 0 rfl rfl 9 (by decide) (hts (.fieldLink RX5 137 "HallSightsModel" "part" "I") (List.mem_of_getElem? (i := 1) rfl)) (fun _ h9 => h9) rfl (by decide +kernel) rfl rfl (Nat.le_of_ble_eq_true rfl) dX5_takes_91 (fun H locs hP hD hS => ?_)
          have hP : va_P D vwCl (MW a cI z (nI ns) zh (nI nl) tx th pa (nI (nrd + 1)) nu (nI 0) wy za) H := hP
          have hD : va_D (kA w0) (MW a cI z (nI ns) zh (nI nl) tx th pa (nI (nrd + 1)) nu (nI 0) wy za) := hD
          refine lv_aload_n hx hb dX5_takes_94 rfl (lv_at hl 1 rfl) ?_
          refine lv_iconst (v := (-1)) hx hb dX5_takes_95 (by decide) ?_
          refine va_put (D := D) (ci := 5) (v := .int (-1)) (ty := .int) (C := RX5) (T := TX5) (N := 12) hx hb hts iX5_takes_5 tyX5 tyX5_ok nmX5 hown hK hP hD hS 0 rfl rfl 8 (by decide) (hts (.fieldLink RX5 134 "HallSightsModel" "number" "I") (List.mem_of_getElem? (i := 2) rfl)) (fun _ h9 => h9) rfl (by decide +kernel) rfl rfl (Nat.le_of_ble_eq_true rfl) dX5_takes_96 (fun H locs hP hD hS => ?_)
          have hP : va_P D vwCl (MW a cI z (nI ns) zh (nI nl) tx th pa (nI (nrd + 1)) (-1) (nI 0) wy za) H := hP
          have hD : va_D (kA w0) (MW a cI z (nI ns) zh (nI nl) tx th pa (nI (nrd + 1)) (-1) (nI 0) wy za) := hD
          refine lv_iconst (v := nI 1) hx hb dX5_takes_99 (by decide) ?_
          have e_88 : (true : Bool) = (okP (nrd, npt, nu, pa) c0) := by first | rfl | omega | (simp [stepP, okP, isSg, sgn, Int32.not_lt, Int32.not_le, c_4_1, c_33_69, c_38_76, c_60_79]; done) | (simp [stepP, okP, isSg, sgn, Int32.not_lt, Int32.not_le, c_4_1, c_33_69, c_38_76, c_60_79]; omega) | (revert c_4_1 c_33_69 c_38_76 c_60_79; simp +contextual [stepP, okP, isSg, sgn, Int32.not_lt, Int32.not_le]; done) | (revert c_4_1 c_33_69 c_38_76 c_60_79; simp +contextual [stepP, okP, isSg, sgn, Int32.not_lt, Int32.not_le]; omega)
          have ec_pa_89 : (pa : ZZ) = ((stepP (nrd, npt, nu, pa) c0).2.2.2) := by first | rfl | omega | (simp [stepP, okP, isSg, sgn, Int32.not_lt, Int32.not_le, c_4_1, c_33_69, c_38_76, c_60_79]; done) | (simp [stepP, okP, isSg, sgn, Int32.not_lt, Int32.not_le, c_4_1, c_33_69, c_38_76, c_60_79]; omega) | (revert c_4_1 c_33_69 c_38_76 c_60_79; simp +contextual [stepP, okP, isSg, sgn, Int32.not_lt, Int32.not_le]; done) | (revert c_4_1 c_33_69 c_38_76 c_60_79; simp +contextual [stepP, okP, isSg, sgn, Int32.not_lt, Int32.not_le]; omega)
          have ec_rd_90 : ((nI (nrd + 1)) : Int32) = (nI ((stepP (nrd, npt, nu, pa) c0).1)) := by first | rfl | omega | (simp [stepP, okP, isSg, sgn, Int32.not_lt, Int32.not_le, c_4_1, c_33_69, c_38_76, c_60_79]; done) | (simp [stepP, okP, isSg, sgn, Int32.not_lt, Int32.not_le, c_4_1, c_33_69, c_38_76, c_60_79]; omega) | (revert c_4_1 c_33_69 c_38_76 c_60_79; simp +contextual [stepP, okP, isSg, sgn, Int32.not_lt, Int32.not_le]; done) | (revert c_4_1 c_33_69 c_38_76 c_60_79; simp +contextual [stepP, okP, isSg, sgn, Int32.not_lt, Int32.not_le]; omega)
          have ec_nu_91 : ((-1) : Int32) = ((stepP (nrd, npt, nu, pa) c0).2.2.1) := by first | rfl | omega | (simp [stepP, okP, isSg, sgn, Int32.not_lt, Int32.not_le, c_4_1, c_33_69, c_38_76, c_60_79]; done) | (simp [stepP, okP, isSg, sgn, Int32.not_lt, Int32.not_le, c_4_1, c_33_69, c_38_76, c_60_79]; omega) | (revert c_4_1 c_33_69 c_38_76 c_60_79; simp +contextual [stepP, okP, isSg, sgn, Int32.not_lt, Int32.not_le]; done) | (revert c_4_1 c_33_69 c_38_76 c_60_79; simp +contextual [stepP, okP, isSg, sgn, Int32.not_lt, Int32.not_le]; omega)
          have ec_pt_92 : ((nI 0) : Int32) = (nI ((stepP (nrd, npt, nu, pa) c0).2.1)) := by first | rfl | omega | (simp [stepP, okP, isSg, sgn, Int32.not_lt, Int32.not_le, c_4_1, c_33_69, c_38_76, c_60_79]; done) | (simp [stepP, okP, isSg, sgn, Int32.not_lt, Int32.not_le, c_4_1, c_33_69, c_38_76, c_60_79]; omega) | (revert c_4_1 c_33_69 c_38_76 c_60_79; simp +contextual [stepP, okP, isSg, sgn, Int32.not_lt, Int32.not_le]; done) | (revert c_4_1 c_33_69 c_38_76 c_60_79; simp +contextual [stepP, okP, isSg, sgn, Int32.not_lt, Int32.not_le]; omega)
          have ew_93 : (MW a cI z (nI ns) zh (nI nl) tx th pa (nI (nrd + 1)) (-1) (nI 0) wy za : va_W) = (MW a cI z (nI ns) zh (nI nl) tx th ((stepP (nrd, npt, nu, pa) c0).2.2.2) (nI ((stepP (nrd, npt, nu, pa) c0).1)) ((stepP (nrd, npt, nu, pa) c0).2.2.1) (nI ((stepP (nrd, npt, nu, pa) c0).2.1)) wy za) := mw_c rfl rfl rfl rfl rfl rfl ec_pa_89 ec_rd_90 ec_nu_91 ec_pt_92 rfl rfl
          rw [ew_93] at hP hD
          subst hw0
          exact kq_zret hx hb hrt hlocks (congrArg bI e_88) hP hD hS dX5_takes_100
      · have c_38_77 : ¬ (c0 : Int32) = (nI 94) := c_38_77
        refine lv_aload_n hx hb dX5_takes_41 rfl (lv_at hl 1 rfl) ?_
        refine lv_iload_n hx hb dX5_takes_42 rfl (lv_at hl 2 rfl) ?_
        refine lv_bipush (v := nI 48) hx hb dX5_takes_43 (by decide) ?_
        refine lv_isub hx hb dX5_takes_45 ?_
        refine kw_V (As := [.int (c0 - (nI 48))]) (rest := []) (C := RX5) (own := RX5) ⟨hx, hb, hml, hown, hts⟩ (c_X5_takesDigit l D cI cC cH cL a z zh tx pa wy ns nl nrd npt th nu za (c0 - (nI 48)) (by first | assumption | omega) (by first | assumption | omega)) (cwV 1 hts gX5_takes_X5_takesDigit rfl rfl rfl k_X5_takesDigit ⟨Nat.le_of_ble_eq_true rfl, Nat.le_of_ble_eq_true rfl⟩) hP hD hK hS [0, 1, 2, 3, 4, 5] [] rfl rfl (wr := []) rfl (by decide) (by decide) (by decide) (va_recv (q := (RX5, TX5, 12)) hK hP (ci := 5) (q0 := 0) rfl rfl) rfl hl.1 rfl (Nat.le_of_ble_eq_true rfl) dX5_takes_46 ⟨Nat.le_of_ble_eq_true rfl, Nat.le_of_ble_eq_true rfl⟩ (fun H locs hP hD hS => ?_)
        have hP : va_P D vwCl (MW a cI z (nI ns) zh (nI nl) tx th (upd pa (3 * nrd + npt) (tdNu nu npt (c0 - (nI 48)))) (nI nrd) (tdNu nu npt (c0 - (nI 48))) (nI npt) wy za) H := hP
        have hD : va_D (kA w0) (MW a cI z (nI ns) zh (nI nl) tx th (upd pa (3 * nrd + npt) (tdNu nu npt (c0 - (nI 48)))) (nI nrd) (tdNu nu npt (c0 - (nI 48))) (nI npt) wy za) := hD
        have e_94 : (tdB nu npt (c0 - (nI 48)) : Bool) = (okP (nrd, npt, nu, pa) c0) := by first | rfl | omega | (simp [stepP, okP, isSg, sgn, Int32.not_lt, Int32.not_le, c_4_1, c_33_69, c_38_77]; done) | (simp [stepP, okP, isSg, sgn, Int32.not_lt, Int32.not_le, c_4_1, c_33_69, c_38_77]; omega) | (revert c_4_1 c_33_69 c_38_77; simp +contextual [stepP, okP, isSg, sgn, Int32.not_lt, Int32.not_le]; done) | (revert c_4_1 c_33_69 c_38_77; simp +contextual [stepP, okP, isSg, sgn, Int32.not_lt, Int32.not_le]; omega)
        have ec_pa_95 : ((upd pa (3 * nrd + npt) (tdNu nu npt (c0 - (nI 48)))) : ZZ) = ((stepP (nrd, npt, nu, pa) c0).2.2.2) := by first | rfl | omega | (simp [stepP, okP, isSg, sgn, Int32.not_lt, Int32.not_le, c_4_1, c_33_69, c_38_77]; done) | (simp [stepP, okP, isSg, sgn, Int32.not_lt, Int32.not_le, c_4_1, c_33_69, c_38_77]; omega) | (revert c_4_1 c_33_69 c_38_77; simp +contextual [stepP, okP, isSg, sgn, Int32.not_lt, Int32.not_le]; done) | (revert c_4_1 c_33_69 c_38_77; simp +contextual [stepP, okP, isSg, sgn, Int32.not_lt, Int32.not_le]; omega)
        have ec_rd_96 : ((nI nrd) : Int32) = (nI ((stepP (nrd, npt, nu, pa) c0).1)) := by first | rfl | omega | (simp [stepP, okP, isSg, sgn, Int32.not_lt, Int32.not_le, c_4_1, c_33_69, c_38_77]; done) | (simp [stepP, okP, isSg, sgn, Int32.not_lt, Int32.not_le, c_4_1, c_33_69, c_38_77]; omega) | (revert c_4_1 c_33_69 c_38_77; simp +contextual [stepP, okP, isSg, sgn, Int32.not_lt, Int32.not_le]; done) | (revert c_4_1 c_33_69 c_38_77; simp +contextual [stepP, okP, isSg, sgn, Int32.not_lt, Int32.not_le]; omega)
        have ec_nu_97 : ((tdNu nu npt (c0 - (nI 48))) : Int32) = ((stepP (nrd, npt, nu, pa) c0).2.2.1) := by first | rfl | omega | (simp [stepP, okP, isSg, sgn, Int32.not_lt, Int32.not_le, c_4_1, c_33_69, c_38_77]; done) | (simp [stepP, okP, isSg, sgn, Int32.not_lt, Int32.not_le, c_4_1, c_33_69, c_38_77]; omega) | (revert c_4_1 c_33_69 c_38_77; simp +contextual [stepP, okP, isSg, sgn, Int32.not_lt, Int32.not_le]; done) | (revert c_4_1 c_33_69 c_38_77; simp +contextual [stepP, okP, isSg, sgn, Int32.not_lt, Int32.not_le]; omega)
        have ec_pt_98 : ((nI npt) : Int32) = (nI ((stepP (nrd, npt, nu, pa) c0).2.1)) := by first | rfl | omega | (simp [stepP, okP, isSg, sgn, Int32.not_lt, Int32.not_le, c_4_1, c_33_69, c_38_77]; done) | (simp [stepP, okP, isSg, sgn, Int32.not_lt, Int32.not_le, c_4_1, c_33_69, c_38_77]; omega) | (revert c_4_1 c_33_69 c_38_77; simp +contextual [stepP, okP, isSg, sgn, Int32.not_lt, Int32.not_le]; done) | (revert c_4_1 c_33_69 c_38_77; simp +contextual [stepP, okP, isSg, sgn, Int32.not_lt, Int32.not_le]; omega)
        have ew_99 : (MW a cI z (nI ns) zh (nI nl) tx th (upd pa (3 * nrd + npt) (tdNu nu npt (c0 - (nI 48)))) (nI nrd) (tdNu nu npt (c0 - (nI 48))) (nI npt) wy za : va_W) = (MW a cI z (nI ns) zh (nI nl) tx th ((stepP (nrd, npt, nu, pa) c0).2.2.2) (nI ((stepP (nrd, npt, nu, pa) c0).1)) ((stepP (nrd, npt, nu, pa) c0).2.2.1) (nI ((stepP (nrd, npt, nu, pa) c0).2.1)) wy za) := mw_c rfl rfl rfl rfl rfl rfl ec_pa_95 ec_rd_96 ec_nu_97 ec_pt_98 rfl rfl
        rw [ew_99] at hP hD
        subst hw0
        exact kq_zret hx hb hrt hlocks (congrArg bI e_94) hP hD hS dX5_takes_49
set_option maxRecDepth 20000 in
theorem iX5_rightUpTo_5 : ∀ w ∈ wsX50, w ∈ wsX5_rightUpTo := by decide +kernel
set_option maxHeartbeats 4000000 in
set_option maxRecDepth 100000 in
theorem c_X5_rightUpTo (l : Launch) (D : va_G) (cI cC cH cL : ClassId) (a : Nat → Nat) (z zh tx pa wy : ZZ) (ns nl : Nat) (th rd nu pt : Int32) (za : Int64)  (hl : nl ≤ 60) : Met l yX5_rightUpTo wsX5_rightUpTo ({ frames := 4, cells := 0, slots := 0, locals := 88 }) (kw [.ref (a 0)] D (MW a cI z (nI ns) zh (nI nl) tx th pa rd nu pt wy za) (kT cI cC cH cL)) (kq D (MW a cI z (nI ns) zh (nI nl) tx th pa rd nu pt wy za) (MW a cI z (nI ns) zh (nI nl) tx th ((finP tx pa nl).2.2.2) (nI ((finP tx pa nl).1)) ((finP tx pa nl).2.2.1) (nI ((finP tx pa nl).2.1)) wy za) (.returned (some (.int (nI (eN tx pa nl)))))) 0 0 (kA (MW a cI z (nI ns) zh (nI nl) tx th pa rd nu pt wy za)) := by
  refine Met.ofW (cc := cX5_rightUpTo) (maxL := 2) (ret := (some .int)) (by decide) rfl ?_
  intro p e s m args below meth c s₁ B hml hv
  obtain ⟨rfl, hP, hK, hD0⟩ := hv
  have hx := B.exec
  have hb := B.bytes
  have hrt := B.returns
  have hts := atoms_spec (ws := wsX5_rightUpTo) B.pre
  have hown : s.vm.findClass RX5 = some m.cls := findClass_of_methodNamed B.named
  have hlocks := B.notSynchronized
  have hl := lv_entry ([.ref (a 0)]) (n := 2) (Nat.le_of_ble_eq_true rfl)
  rw [lg_entry_eq]
  generalize (lg_sl ([.ref (a 0)]) ++ List.replicate (2 - (lg_sl ([.ref (a 0)])).length) Slot.unset).toArray = ls at hl ⊢
  have hl : lv_has ls 2 [(0, .ref (a 0))] := hl
  have hD := kA_self hD0
  obtain ⟨w0, hw0⟩ : ∃ w : va_W, w = MW a cI z (nI ns) zh (nI nl) tx th pa rd nu pt wy za := ⟨_, rfl⟩
  have hD : va_D (kA w0) (MW a cI z (nI ns) zh (nI nl) tx th pa rd nu pt wy za) := by rw [hw0]; exact hD
  have hS : va_S (kA w0) s.heap s.heap [] := va_S.rf
  rw [show kA (MW a cI z (nI ns) zh (nI nl) tx th pa rd nu pt wy za) = kA w0 from by rw [hw0], show kq D (MW a cI z (nI ns) zh (nI nl) tx th pa rd nu pt wy za) = kq D w0 from by rw [hw0]]
  have hP : va_P D vwCl (MW a cI z (nI ns) zh (nI nl) tx th pa rd nu pt wy za) s.heap := hP
  refine lv_aload_n hx hb dX5_rightUpTo_0 rfl (lv_at hl 0 rfl) ?_
  refine lv_iconst (v := nI 0) hx hb dX5_rightUpTo_1 (by decide) ?_
  refine va_put (D := D) (ci := 5) (v := .int (nI 0)) (ty := .int) (C := RX5) (T := TX5) (N := 12) hx hb hts iX5_rightUpTo_5 tyX5 tyX5_ok nmX5 hown hK hP hD hS 0 rfl rfl 7 (by decide) (hts (.fieldLink RX5 140 "HallSightsModel" "read" "I") (List.mem_of_getElem? (i := 1) rfl)) (fun _ h9 => h9) rfl (by decide +kernel) rfl rfl (Nat.le_of_ble_eq_true rfl) dX5_rightUpTo_2 (fun H locs hP hD hS => ?_)
  have hP : va_P D vwCl (MW a cI z (nI ns) zh (nI nl) tx th pa (nI 0) nu pt wy za) H := hP
  have hD : va_D (kA w0) (MW a cI z (nI ns) zh (nI nl) tx th pa (nI 0) nu pt wy za) := hD
  refine lv_aload_n hx hb dX5_rightUpTo_5 rfl (lv_at hl 0 rfl) ?_
  refine lv_iconst (v := nI 0) hx hb dX5_rightUpTo_6 (by decide) ?_
  refine va_put (D := D) (ci := 5) (v := .int (nI 0)) (ty := .int) (C := RX5) (T := TX5) (N := 12) hx hb hts iX5_rightUpTo_5 tyX5 tyX5_ok nmX5 hown hK hP hD hS 0 rfl rfl 9 (by decide) (hts (.fieldLink RX5 137 "HallSightsModel" "part" "I") (List.mem_of_getElem? (i := 2) rfl)) (fun _ h9 => h9) rfl (by decide +kernel) rfl rfl (Nat.le_of_ble_eq_true rfl) dX5_rightUpTo_7 (fun H locs hP hD hS => ?_)
  have hP : va_P D vwCl (MW a cI z (nI ns) zh (nI nl) tx th pa (nI 0) nu (nI 0) wy za) H := hP
  have hD : va_D (kA w0) (MW a cI z (nI ns) zh (nI nl) tx th pa (nI 0) nu (nI 0) wy za) := hD
  refine lv_aload_n hx hb dX5_rightUpTo_10 rfl (lv_at hl 0 rfl) ?_
  refine lv_iconst (v := (-1)) hx hb dX5_rightUpTo_11 (by decide) ?_
  refine va_put (D := D) (ci := 5) (v := .int (-1)) (ty := .int) (C := RX5) (T := TX5) (N := 12) hx hb hts iX5_rightUpTo_5 tyX5 tyX5_ok nmX5 hown hK hP hD hS 0 rfl rfl 8 (by decide) (hts (.fieldLink RX5 134 "HallSightsModel" "number" "I") (List.mem_of_getElem? (i := 3) rfl)) (fun _ h9 => h9) rfl (by decide +kernel) rfl rfl (Nat.le_of_ble_eq_true rfl) dX5_rightUpTo_12 (fun H locs hP hD hS => ?_)
  have hP : va_P D vwCl (MW a cI z (nI ns) zh (nI nl) tx th pa (nI 0) (-1) (nI 0) wy za) H := hP
  have hD : va_D (kA w0) (MW a cI z (nI ns) zh (nI nl) tx th pa (nI 0) (-1) (nI 0) wy za) := hD
  refine lv_iconst (v := nI 0) hx hb dX5_rightUpTo_15 (by decide) ?_
  refine lv_istore_n (lv' := [(1, .int (nI 0)), (0, .ref (a 0))]) hx hb dX5_rightUpTo_16 rfl hl (by decide) rfl (fun ls hl => ?_)
  have ec_pa_0 : (pa : ZZ) = ((runP tx pa 0).2.2.2) := by first | rfl | omega | (simp [Int32.not_lt, Int32.not_le]; done) | (simp [Int32.not_lt, Int32.not_le]; omega)
  have ec_rd_1 : ((nI 0) : Int32) = (nI ((runP tx pa 0).1)) := by first | rfl | omega | (simp [Int32.not_lt, Int32.not_le]; done) | (simp [Int32.not_lt, Int32.not_le]; omega)
  have ec_nu_2 : ((-1) : Int32) = ((runP tx pa 0).2.2.1) := by rfl
  have ec_pt_3 : ((nI 0) : Int32) = (nI ((runP tx pa 0).2.1)) := by first | rfl | omega | (simp [Int32.not_lt, Int32.not_le]; done) | (simp [Int32.not_lt, Int32.not_le]; omega)
  have ew_4 : (MW a cI z (nI ns) zh (nI nl) tx th pa (nI 0) (-1) (nI 0) wy za : va_W) = (MW a cI z (nI ns) zh (nI nl) tx th ((runP tx pa 0).2.2.2) (nI ((runP tx pa 0).1)) ((runP tx pa 0).2.2.1) (nI ((runP tx pa 0).2.1)) wy za) := mw_c rfl rfl rfl rfl rfl rfl ec_pa_0 ec_rd_1 ec_nu_2 ec_pt_3 rfl rfl
  rw [ew_4] at hP hD
  refine kx_upW (fun k H locs ls => (va_P D vwCl (MW a cI z (nI ns) zh (nI nl) tx th ((runP tx pa k).2.2.2) (nI ((runP tx pa k).1)) ((runP tx pa k).2.2.1) (nI ((runP tx pa k).2.1)) wy za) H ∧ va_D (kA w0) (MW a cI z (nI ns) zh (nI nl) tx th ((runP tx pa k).2.2.2) (nI ((runP tx pa k).1)) ((runP tx pa k).2.2.1) (nI ((runP tx pa k).2.1)) wy za) ∧ va_S (kA w0) s.heap H locs) ∧ lv_has ls 2 [(0, .ref (a 0)), (1, .int (nI k))] ∧ (eN tx pa k = k)) (0) (nl) (by omega) _ _ ls ⟨⟨hP, hD, hS⟩, ⟨(lv_sub hl [1, 0] rfl), rfl⟩⟩ ?_
  clear hP hD hS
  intro ik H locs ls hikl hikh hp ih17
  obtain ⟨⟨hP, hD, hS⟩, hp⟩ := hp
  obtain ⟨hl, hinv17⟩ := hp
  have hpt17 := runP_pt hinv17
  have hrd17 := runP_rd hinv17
  refine lv_iload_n hx hb dX5_rightUpTo_17 rfl (lv_at hl 1 rfl) ?_
  refine lv_aload_n hx hb dX5_rightUpTo_18 rfl (lv_at hl 0 rfl) ?_
  refine va_get (D := D) (ci := 5) (v := .int (nI nl)) (C := RX5) (T := TX5) (N := 12) hx hb hts iX5_rightUpTo_5 hown hK hP 0 rfl rfl 3 (by decide) (hts (.fieldLink RX5 131 "HallSightsModel" "length" "I") (List.mem_of_getElem? (i := 4) rfl)) (fun _ h9 => h9) rfl dX5_rightUpTo_19 ?_
  refine kx_icmp_ge (tgt := 44) hx hb (by omega) (by omega) dX5_rightUpTo_22 (by decide) (fun c_22_5 => ?_) (fun c_22_6 => ?_)
  · refine lv_iload_n hx hb dX5_rightUpTo_44 rfl (lv_at hl 1 rfl) ?_
    have e_7 : (ik : Nat) = (eN tx pa nl) := by first | (have q9 : nl = ik := (by omega); rw [q9]; exact hinv17.symm) | exact (eN_stop hinv17 (by omega) (by assumption)).symm
    have ec_pa_8 : (((runP tx pa ik).2.2.2) : ZZ) = ((finP tx pa nl).2.2.2) := by first | (have q9 : nl = ik := (by omega); subst q9; exact (congrArg (fun x : PS => x.2.2.2) (finP_a hinv17)).symm) | exact (congrArg (fun x : PS => x.2.2.2) (finP_b hinv17 (by omega) (by assumption))).symm
    have ec_rd_9 : ((nI ((runP tx pa ik).1)) : Int32) = (nI ((finP tx pa nl).1)) := by first | (have q9 : nl = ik := (by omega); subst q9; exact (congrArg (fun x : PS => nI x.1) (finP_a hinv17)).symm) | exact (congrArg (fun x : PS => nI x.1) (finP_b hinv17 (by omega) (by assumption))).symm
    have ec_nu_10 : (((runP tx pa ik).2.2.1) : Int32) = ((finP tx pa nl).2.2.1) := by first | (have q9 : nl = ik := (by omega); subst q9; exact (congrArg (fun x : PS => x.2.2.1) (finP_a hinv17)).symm) | exact (congrArg (fun x : PS => x.2.2.1) (finP_b hinv17 (by omega) (by assumption))).symm
    have ec_pt_11 : ((nI ((runP tx pa ik).2.1)) : Int32) = (nI ((finP tx pa nl).2.1)) := by first | (have q9 : nl = ik := (by omega); subst q9; exact (congrArg (fun x : PS => nI x.2.1) (finP_a hinv17)).symm) | exact (congrArg (fun x : PS => nI x.2.1) (finP_b hinv17 (by omega) (by assumption))).symm
    have ew_12 : (MW a cI z (nI ns) zh (nI nl) tx th ((runP tx pa ik).2.2.2) (nI ((runP tx pa ik).1)) ((runP tx pa ik).2.2.1) (nI ((runP tx pa ik).2.1)) wy za : va_W) = (MW a cI z (nI ns) zh (nI nl) tx th ((finP tx pa nl).2.2.2) (nI ((finP tx pa nl).1)) ((finP tx pa nl).2.2.1) (nI ((finP tx pa nl).2.1)) wy za) := mw_c rfl rfl rfl rfl rfl rfl ec_pa_8 ec_rd_9 ec_nu_10 ec_pt_11 rfl rfl
    rw [ew_12] at hP hD
    subst hw0
    exact kq_iret hx hb hrt hlocks (congrArg nI e_7) hP hD hS dX5_rightUpTo_45
  · refine lv_aload_n hx hb dX5_rightUpTo_25 rfl (lv_at hl 0 rfl) ?_
    refine lv_aload_n hx hb dX5_rightUpTo_26 rfl (lv_at hl 0 rfl) ?_
    refine va_get (D := D) (ci := 5) (v := .ref (a 3)) (C := RX5) (T := TX5) (N := 12) hx hb hts iX5_rightUpTo_5 hown hK hP 0 rfl rfl 4 (by decide) (hts (.fieldLink RX5 16 "HallSightsModel" "text" "[I") (List.mem_of_getElem? (i := 5) rfl)) (fun _ h9 => h9) rfl dX5_rightUpTo_27 ?_
    refine lv_iload_n hx hb dX5_rightUpTo_30 rfl (lv_at hl 1 rfl) ?_
    refine kx_iald hx hb hK hP 3 0 rfl rfl (by omega) (by decide) dX5_rightUpTo_31 ?_
    refine kw_V (As := [.int (tx ik)]) (rest := []) (C := RX5) (own := RX5) ⟨hx, hb, hml, hown, hts⟩ (c_X5_takes l D cI cC cH cL a z zh tx ((runP tx pa ik).2.2.2) wy ns nl ((runP tx pa ik).1) ((runP tx pa ik).2.1) th ((runP tx pa ik).2.2.1) za (tx ik) (by exact hpt17) (by omega)) (cwV 1 hts gX5_rightUpTo_X5_takes rfl rfl rfl k_X5_takes ⟨Nat.le_of_ble_eq_true rfl, Nat.le_of_ble_eq_true rfl⟩) hP hD hK hS [0, 1, 2, 3, 4, 5] [] rfl rfl (wr := []) rfl (by decide) (by decide) (by decide) (va_recv (q := (RX5, TX5, 12)) hK hP (ci := 5) (q0 := 0) rfl rfl) rfl hl.1 rfl (Nat.le_of_ble_eq_true rfl) dX5_rightUpTo_32 ⟨Nat.le_of_ble_eq_true rfl, Nat.le_of_ble_eq_true rfl⟩ (fun H locs hP hD hS => ?_)
    have hP : va_P D vwCl (MW a cI z (nI ns) zh (nI nl) tx th ((stepP (((runP tx pa ik).1), ((runP tx pa ik).2.1), ((runP tx pa ik).2.2.1), ((runP tx pa ik).2.2.2)) (tx ik)).2.2.2) (nI ((stepP (((runP tx pa ik).1), ((runP tx pa ik).2.1), ((runP tx pa ik).2.2.1), ((runP tx pa ik).2.2.2)) (tx ik)).1)) ((stepP (((runP tx pa ik).1), ((runP tx pa ik).2.1), ((runP tx pa ik).2.2.1), ((runP tx pa ik).2.2.2)) (tx ik)).2.2.1) (nI ((stepP (((runP tx pa ik).1), ((runP tx pa ik).2.1), ((runP tx pa ik).2.2.1), ((runP tx pa ik).2.2.2)) (tx ik)).2.1)) wy za) H := hP
    have hD : va_D (kA w0) (MW a cI z (nI ns) zh (nI nl) tx th ((stepP (((runP tx pa ik).1), ((runP tx pa ik).2.1), ((runP tx pa ik).2.2.1), ((runP tx pa ik).2.2.2)) (tx ik)).2.2.2) (nI ((stepP (((runP tx pa ik).1), ((runP tx pa ik).2.1), ((runP tx pa ik).2.2.1), ((runP tx pa ik).2.2.2)) (tx ik)).1)) ((stepP (((runP tx pa ik).1), ((runP tx pa ik).2.1), ((runP tx pa ik).2.2.1), ((runP tx pa ik).2.2.2)) (tx ik)).2.2.1) (nI ((stepP (((runP tx pa ik).1), ((runP tx pa ik).2.1), ((runP tx pa ik).2.2.1), ((runP tx pa ik).2.2.2)) (tx ik)).2.1)) wy za) := hD
    refine kx_if_eqb (tgt := 44) hx hb dX5_rightUpTo_35 (by decide) (fun c_35_13 => ?_) (fun c_35_14 => ?_)
    · refine lv_iload_n hx hb dX5_rightUpTo_44 rfl (lv_at hl 1 rfl) ?_
      have e_15 : (ik : Nat) = (eN tx pa nl) := by first | (have q9 : nl = ik := (by omega); rw [q9]; exact hinv17.symm) | exact (eN_stop hinv17 (by omega) (by assumption)).symm
      have ec_pa_16 : (((stepP (((runP tx pa ik).1), ((runP tx pa ik).2.1), ((runP tx pa ik).2.2.1), ((runP tx pa ik).2.2.2)) (tx ik)).2.2.2) : ZZ) = ((finP tx pa nl).2.2.2) := by first | (have q9 : nl = ik := (by omega); subst q9; exact (congrArg (fun x : PS => x.2.2.2) (finP_a hinv17)).symm) | exact (congrArg (fun x : PS => x.2.2.2) (finP_b hinv17 (by omega) (by assumption))).symm
      have ec_rd_17 : ((nI ((stepP (((runP tx pa ik).1), ((runP tx pa ik).2.1), ((runP tx pa ik).2.2.1), ((runP tx pa ik).2.2.2)) (tx ik)).1)) : Int32) = (nI ((finP tx pa nl).1)) := by first | (have q9 : nl = ik := (by omega); subst q9; exact (congrArg (fun x : PS => nI x.1) (finP_a hinv17)).symm) | exact (congrArg (fun x : PS => nI x.1) (finP_b hinv17 (by omega) (by assumption))).symm
      have ec_nu_18 : (((stepP (((runP tx pa ik).1), ((runP tx pa ik).2.1), ((runP tx pa ik).2.2.1), ((runP tx pa ik).2.2.2)) (tx ik)).2.2.1) : Int32) = ((finP tx pa nl).2.2.1) := by first | (have q9 : nl = ik := (by omega); subst q9; exact (congrArg (fun x : PS => x.2.2.1) (finP_a hinv17)).symm) | exact (congrArg (fun x : PS => x.2.2.1) (finP_b hinv17 (by omega) (by assumption))).symm
      have ec_pt_19 : ((nI ((stepP (((runP tx pa ik).1), ((runP tx pa ik).2.1), ((runP tx pa ik).2.2.1), ((runP tx pa ik).2.2.2)) (tx ik)).2.1)) : Int32) = (nI ((finP tx pa nl).2.1)) := by first | (have q9 : nl = ik := (by omega); subst q9; exact (congrArg (fun x : PS => nI x.2.1) (finP_a hinv17)).symm) | exact (congrArg (fun x : PS => nI x.2.1) (finP_b hinv17 (by omega) (by assumption))).symm
      have ew_20 : (MW a cI z (nI ns) zh (nI nl) tx th ((stepP (((runP tx pa ik).1), ((runP tx pa ik).2.1), ((runP tx pa ik).2.2.1), ((runP tx pa ik).2.2.2)) (tx ik)).2.2.2) (nI ((stepP (((runP tx pa ik).1), ((runP tx pa ik).2.1), ((runP tx pa ik).2.2.1), ((runP tx pa ik).2.2.2)) (tx ik)).1)) ((stepP (((runP tx pa ik).1), ((runP tx pa ik).2.1), ((runP tx pa ik).2.2.1), ((runP tx pa ik).2.2.2)) (tx ik)).2.2.1) (nI ((stepP (((runP tx pa ik).1), ((runP tx pa ik).2.1), ((runP tx pa ik).2.2.1), ((runP tx pa ik).2.2.2)) (tx ik)).2.1)) wy za : va_W) = (MW a cI z (nI ns) zh (nI nl) tx th ((finP tx pa nl).2.2.2) (nI ((finP tx pa nl).1)) ((finP tx pa nl).2.2.1) (nI ((finP tx pa nl).2.1)) wy za) := mw_c rfl rfl rfl rfl rfl rfl ec_pa_16 ec_rd_17 ec_nu_18 ec_pt_19 rfl rfl
      rw [ew_20] at hP hD
      subst hw0
      exact kq_iret hx hb hrt hlocks (congrArg nI e_15) hP hD hS dX5_rightUpTo_45
    · refine lv_iinc (v := nI (ik + 1)) (lv' := [(1, .int (nI (ik + 1))), (0, .ref (a 0))]) hx hb dX5_rightUpTo_38 hl (k := 1) rfl (kx_inc 1) (by decide) rfl (fun ls hl => ?_)
      refine lv_goto (tgt := 17) hx hb dX5_rightUpTo_41 (by decide) ?_
      have e17_21 : (ik + 1 : Nat) = ((ik + 1)) := by first | rfl | omega | (simp [Int32.not_lt, Int32.not_le, c_22_6, Nat.not_le.mpr c_22_6, c_35_14]; done) | (simp [Int32.not_lt, Int32.not_le, c_22_6, Nat.not_le.mpr c_22_6, c_35_14]; omega) | (revert c_22_6 c_35_14; simp +contextual [Int32.not_lt, Int32.not_le]; done) | (revert c_22_6 c_35_14; simp +contextual [Int32.not_lt, Int32.not_le]; omega)
      have hl17_22 : lv_has ls 2 [(0, .ref (a 0)), (1, .int (nI (ik + 1)))] := lv_eqv (l1 := [(0, .ref (a 0)), (1, .int (nI (ik + 1)))]) (lv_sub hl [1, 0] rfl) (lv_ce rfl (lv_ce (congrArg (fun x => Value.int (nI x)) e17_21) rfl))
      have ec_pa_23 : (((stepP (((runP tx pa ik).1), ((runP tx pa ik).2.1), ((runP tx pa ik).2.2.1), ((runP tx pa ik).2.2.2)) (tx ik)).2.2.2) : ZZ) = ((runP tx pa (ik + 1)).2.2.2) := by rfl
      have ec_rd_24 : ((nI ((stepP (((runP tx pa ik).1), ((runP tx pa ik).2.1), ((runP tx pa ik).2.2.1), ((runP tx pa ik).2.2.2)) (tx ik)).1)) : Int32) = (nI ((runP tx pa (ik + 1)).1)) := by rfl
      have ec_nu_25 : (((stepP (((runP tx pa ik).1), ((runP tx pa ik).2.1), ((runP tx pa ik).2.2.1), ((runP tx pa ik).2.2.2)) (tx ik)).2.2.1) : Int32) = ((runP tx pa (ik + 1)).2.2.1) := by rfl
      have ec_pt_26 : ((nI ((stepP (((runP tx pa ik).1), ((runP tx pa ik).2.1), ((runP tx pa ik).2.2.1), ((runP tx pa ik).2.2.2)) (tx ik)).2.1)) : Int32) = (nI ((runP tx pa (ik + 1)).2.1)) := by rfl
      have ew_27 : (MW a cI z (nI ns) zh (nI nl) tx th ((stepP (((runP tx pa ik).1), ((runP tx pa ik).2.1), ((runP tx pa ik).2.2.1), ((runP tx pa ik).2.2.2)) (tx ik)).2.2.2) (nI ((stepP (((runP tx pa ik).1), ((runP tx pa ik).2.1), ((runP tx pa ik).2.2.1), ((runP tx pa ik).2.2.2)) (tx ik)).1)) ((stepP (((runP tx pa ik).1), ((runP tx pa ik).2.1), ((runP tx pa ik).2.2.1), ((runP tx pa ik).2.2.2)) (tx ik)).2.2.1) (nI ((stepP (((runP tx pa ik).1), ((runP tx pa ik).2.1), ((runP tx pa ik).2.2.1), ((runP tx pa ik).2.2.2)) (tx ik)).2.1)) wy za : va_W) = (MW a cI z (nI ns) zh (nI nl) tx th ((runP tx pa (ik + 1)).2.2.2) (nI ((runP tx pa (ik + 1)).1)) ((runP tx pa (ik + 1)).2.2.1) (nI ((runP tx pa (ik + 1)).2.1)) wy za) := mw_c rfl rfl rfl rfl rfl rfl ec_pa_23 ec_rd_24 ec_nu_25 ec_pt_26 rfl rfl
      rw [ew_27] at hP hD
      exact ih17 _ _ _ (by omega) ⟨⟨hP, hD, hS⟩, ⟨hl17_22, by rw [eN_s, if_pos ⟨hinv17, by assumption⟩]⟩⟩
set_option maxRecDepth 20000 in
theorem iX5_firstError_5 : ∀ w ∈ wsX50, w ∈ wsX5_firstError := by decide +kernel
set_option maxHeartbeats 4000000 in
set_option maxRecDepth 100000 in
theorem c_X5_firstError (l : Launch) (D : va_G) (cI cC cH cL : ClassId) (a : Nat → Nat) (z zh tx pa wy : ZZ) (ns nl : Nat) (th rd nu pt : Int32) (za : Int64)  (hl : nl ≤ 60) : Met l yX5_firstError wsX5_firstError ({ frames := 5, cells := 0, slots := 0, locals := 109 }) (kw [.ref (a 0)] D (MW a cI z (nI ns) zh (nI nl) tx th pa rd nu pt wy za) (kT cI cC cH cL)) (kq D (MW a cI z (nI ns) zh (nI nl) tx th pa rd nu pt wy za) (MW a cI z (nI ns) zh (nI nl) tx (nI 0) ((finP tx pa nl).2.2.2) (nI ((finP tx pa nl).1)) ((finP tx pa nl).2.2.1) (nI ((finP tx pa nl).2.1)) wy za) (.returned (some (.int (nI (eN tx pa nl)))))) 0 0 (kA (MW a cI z (nI ns) zh (nI nl) tx th pa rd nu pt wy za)) := by
  refine Met.ofW (cc := cX5_firstError) (maxL := 1) (ret := (some .int)) (by decide) rfl ?_
  intro p e s m args below meth c s₁ B hml hv
  obtain ⟨rfl, hP, hK, hD0⟩ := hv
  have hx := B.exec
  have hb := B.bytes
  have hrt := B.returns
  have hts := atoms_spec (ws := wsX5_firstError) B.pre
  have hown : s.vm.findClass RX5 = some m.cls := findClass_of_methodNamed B.named
  have hlocks := B.notSynchronized
  have hl := lv_entry ([.ref (a 0)]) (n := 1) (Nat.le_of_ble_eq_true rfl)
  rw [lg_entry_eq]
  generalize (lg_sl ([.ref (a 0)]) ++ List.replicate (1 - (lg_sl ([.ref (a 0)])).length) Slot.unset).toArray = ls at hl ⊢
  have hl : lv_has ls 1 [(0, .ref (a 0))] := hl
  have hD := kA_self hD0
  obtain ⟨w0, hw0⟩ : ∃ w : va_W, w = MW a cI z (nI ns) zh (nI nl) tx th pa rd nu pt wy za := ⟨_, rfl⟩
  have hD : va_D (kA w0) (MW a cI z (nI ns) zh (nI nl) tx th pa rd nu pt wy za) := by rw [hw0]; exact hD
  have hS : va_S (kA w0) s.heap s.heap [] := va_S.rf
  rw [show kA (MW a cI z (nI ns) zh (nI nl) tx th pa rd nu pt wy za) = kA w0 from by rw [hw0], show kq D (MW a cI z (nI ns) zh (nI nl) tx th pa rd nu pt wy za) = kq D w0 from by rw [hw0]]
  have hP : va_P D vwCl (MW a cI z (nI ns) zh (nI nl) tx th pa rd nu pt wy za) s.heap := hP
  refine lv_aload_n hx hb dX5_firstError_0 rfl (lv_at hl 0 rfl) ?_
  refine lv_iconst (v := nI 0) hx hb dX5_firstError_1 (by decide) ?_
  refine va_put (D := D) (ci := 5) (v := .int (nI 0)) (ty := .int) (C := RX5) (T := TX5) (N := 12) hx hb hts iX5_firstError_5 tyX5 tyX5_ok nmX5 hown hK hP hD hS 0 rfl rfl 5 (by decide) (hts (.fieldLink RX5 25 "HallSightsModel" "thrown" "I") (List.mem_of_getElem? (i := 1) rfl)) (fun _ h9 => h9) rfl (by decide +kernel) rfl rfl (Nat.le_of_ble_eq_true rfl) dX5_firstError_2 (fun H locs hP hD hS => ?_)
  have hP : va_P D vwCl (MW a cI z (nI ns) zh (nI nl) tx (nI 0) pa rd nu pt wy za) H := hP
  have hD : va_D (kA w0) (MW a cI z (nI ns) zh (nI nl) tx (nI 0) pa rd nu pt wy za) := hD
  refine lv_aload_n hx hb dX5_firstError_5 rfl (lv_at hl 0 rfl) ?_
  refine kw_V (As := []) (rest := []) (C := RX5) (own := RX5) ⟨hx, hb, hml, hown, hts⟩ (c_X5_rightUpTo l D cI cC cH cL a z zh tx pa wy ns nl (nI 0) rd nu pt za  (by first | assumption | omega)) (cwV 0 hts gX5_firstError_X5_rightUpTo rfl rfl rfl k_X5_rightUpTo ⟨Nat.le_of_ble_eq_true rfl, Nat.le_of_ble_eq_true rfl⟩) hP hD hK hS [0, 1, 2, 3, 4, 5] [] rfl rfl (wr := []) rfl (by decide) (by decide) (by decide) (va_recv (q := (RX5, TX5, 12)) hK hP (ci := 5) (q0 := 0) rfl rfl) rfl hl.1 rfl (Nat.le_of_ble_eq_true rfl) dX5_firstError_6 ⟨Nat.le_of_ble_eq_true rfl, Nat.le_of_ble_eq_true rfl⟩ (fun H locs hP hD hS => ?_)
  have hP : va_P D vwCl (MW a cI z (nI ns) zh (nI nl) tx (nI 0) ((finP tx pa nl).2.2.2) (nI ((finP tx pa nl).1)) ((finP tx pa nl).2.2.1) (nI ((finP tx pa nl).2.1)) wy za) H := hP
  have hD : va_D (kA w0) (MW a cI z (nI ns) zh (nI nl) tx (nI 0) ((finP tx pa nl).2.2.2) (nI ((finP tx pa nl).1)) ((finP tx pa nl).2.2.1) (nI ((finP tx pa nl).2.1)) wy za) := hD
  subst hw0
  exact kq_iret hx hb hrt hlocks rfl hP hD hS dX5_firstError_9
set_option maxRecDepth 20000 in
theorem iX5_addAll_5 : ∀ w ∈ wsX50, w ∈ wsX5_addAll := by decide +kernel
set_option maxHeartbeats 4000000 in
set_option maxRecDepth 100000 in
theorem c_X5_addAll (l : Launch) (D : va_G) (cI cC cH cL : ClassId) (a : Nat → Nat) (z zh tx pa wy : ZZ) (ns nl : Nat) (th rd nu pt : Int32) (za : Int64)  (hw : WF z) (hn : ns ≤ 6) (hl : nl ≤ 60) : Met l yX5_addAll wsX5_addAll ({ frames := 5, cells := 0, slots := 0, locals := 109 }) (kw [.ref (a 0)] D (MW a cI z (nI ns) zh (nI nl) tx th pa rd nu pt wy za) (kT cI cC cH cL)) (kq D (MW a cI z (nI ns) zh (nI nl) tx th pa rd nu pt wy za) (MW a cI (if tAll tx pa nl = 0 then adZ z ((finP tx pa nl).2.2.2) (adN z ((finP tx pa nl).2.2.2) ((finP tx pa nl).1 + 1)) else z) (nI (if tAll tx pa nl = 0 then saveN ns else ns)) (if tAll tx pa nl = 0 then saveH z zh ns else zh) (nI (if tAll tx pa nl = 0 then 0 else nl)) tx (nI (tAll tx pa nl)) ((finP tx pa nl).2.2.2) (nI ((finP tx pa nl).1)) ((finP tx pa nl).2.2.1) (nI ((finP tx pa nl).2.1)) wy za) (.returned (some (.int (if tAll tx pa nl = 0 then nI (adN z ((finP tx pa nl).2.2.2) ((finP tx pa nl).1 + 1)) else nI 0))))) 0 0 (kA (MW a cI z (nI ns) zh (nI nl) tx th pa rd nu pt wy za)) := by
  refine Met.ofW (cc := cX5_addAll) (maxL := 4) (ret := (some .int)) (by decide) rfl ?_
  intro p e s m args below meth c s₁ B hml hv
  obtain ⟨rfl, hP, hK, hD0⟩ := hv
  have hx := B.exec
  have hb := B.bytes
  have hrt := B.returns
  have hts := atoms_spec (ws := wsX5_addAll) B.pre
  have hown : s.vm.findClass RX5 = some m.cls := findClass_of_methodNamed B.named
  have hlocks := B.notSynchronized
  have hl := lv_entry ([.ref (a 0)]) (n := 4) (Nat.le_of_ble_eq_true rfl)
  rw [lg_entry_eq]
  generalize (lg_sl ([.ref (a 0)]) ++ List.replicate (4 - (lg_sl ([.ref (a 0)])).length) Slot.unset).toArray = ls at hl ⊢
  have hl : lv_has ls 4 [(0, .ref (a 0))] := hl
  have hD := kA_self hD0
  obtain ⟨w0, hw0⟩ : ∃ w : va_W, w = MW a cI z (nI ns) zh (nI nl) tx th pa rd nu pt wy za := ⟨_, rfl⟩
  have hD : va_D (kA w0) (MW a cI z (nI ns) zh (nI nl) tx th pa rd nu pt wy za) := by rw [hw0]; exact hD
  have hS : va_S (kA w0) s.heap s.heap [] := va_S.rf
  rw [show kA (MW a cI z (nI ns) zh (nI nl) tx th pa rd nu pt wy za) = kA w0 from by rw [hw0], show kq D (MW a cI z (nI ns) zh (nI nl) tx th pa rd nu pt wy za) = kq D w0 from by rw [hw0]]
  have hP : va_P D vwCl (MW a cI z (nI ns) zh (nI nl) tx th pa rd nu pt wy za) s.heap := hP
  have hR10 := wf_R10 hw
  have hC4 := wf_C4 hw
  have heN := eN_le tx pa nl
  have hfp := finP_pt tx pa nl
  refine lv_aload_n hx hb dX5_addAll_0 rfl (lv_at hl 0 rfl) ?_
  refine kw_V (As := []) (rest := []) (C := RX5) (own := RX5) ⟨hx, hb, hml, hown, hts⟩ (c_X5_rightUpTo l D cI cC cH cL a z zh tx pa wy ns nl th rd nu pt za  (by first | assumption | omega)) (cwV 0 hts gX5_addAll_X5_rightUpTo rfl rfl rfl k_X5_rightUpTo ⟨Nat.le_of_ble_eq_true rfl, Nat.le_of_ble_eq_true rfl⟩) hP hD hK hS [0, 1, 2, 3, 4, 5] [] rfl rfl (wr := []) rfl (by decide) (by decide) (by decide) (va_recv (q := (RX5, TX5, 12)) hK hP (ci := 5) (q0 := 0) rfl rfl) rfl hl.1 rfl (Nat.le_of_ble_eq_true rfl) dX5_addAll_1 ⟨Nat.le_of_ble_eq_true rfl, Nat.le_of_ble_eq_true rfl⟩ (fun H locs hP hD hS => ?_)
  have hP : va_P D vwCl (MW a cI z (nI ns) zh (nI nl) tx th ((finP tx pa nl).2.2.2) (nI ((finP tx pa nl).1)) ((finP tx pa nl).2.2.1) (nI ((finP tx pa nl).2.1)) wy za) H := hP
  have hD : va_D (kA w0) (MW a cI z (nI ns) zh (nI nl) tx th ((finP tx pa nl).2.2.2) (nI ((finP tx pa nl).1)) ((finP tx pa nl).2.2.1) (nI ((finP tx pa nl).2.1)) wy za) := hD
  refine lv_aload_n hx hb dX5_addAll_4 rfl (lv_at hl 0 rfl) ?_
  refine va_get (D := D) (ci := 5) (v := .int (nI nl)) (C := RX5) (T := TX5) (N := 12) hx hb hts iX5_addAll_5 hown hK hP 0 rfl rfl 3 (by decide) (hts (.fieldLink RX5 131 "HallSightsModel" "length" "I") (List.mem_of_getElem? (i := 1) rfl)) (fun _ h9 => h9) rfl dX5_addAll_5 ?_
  refine kx_icmp_ne (tgt := 31) hx hb (by omega) (by omega) dX5_addAll_8 (by decide) (fun c_8_0 => ?_) (fun c_8_1 => ?_)
  · refine lv_iconst (v := nI 0) hx hb dX5_addAll_31 (by decide) ?_
    refine lv_istore_n (lv' := [(1, .int (nI 0)), (0, .ref (a 0))]) hx hb dX5_addAll_32 rfl hl (by decide) rfl (fun ls hl => ?_)
    refine lv_aload_n hx hb dX5_addAll_33 rfl (lv_at hl 1 rfl) ?_
    refine lv_iload_n hx hb dX5_addAll_34 rfl (lv_at hl 0 rfl) ?_
    refine kx_if_eq (tgt := 42) hx hb (by omega) dX5_addAll_35 (by decide) (fun c_35_2 => ?_) (fun c => absurd c (by omega))
    refine lv_iconst (v := nI 1) hx hb dX5_addAll_42 (by decide) ?_
    refine va_put (D := D) (ci := 5) (v := .int (nI 1)) (ty := .int) (C := RX5) (T := TX5) (N := 12) hx hb hts iX5_addAll_5 tyX5 tyX5_ok nmX5 hown hK hP hD hS 0 rfl rfl 5 (by decide) (hts (.fieldLink RX5 25 "HallSightsModel" "thrown" "I") (List.mem_of_getElem? (i := 4) rfl)) (fun _ h9 => h9) rfl (by decide +kernel) rfl rfl (Nat.le_of_ble_eq_true rfl) dX5_addAll_43 (fun H locs hP hD hS => ?_)
    have hP : va_P D vwCl (MW a cI z (nI ns) zh (nI nl) tx (nI 1) ((finP tx pa nl).2.2.2) (nI ((finP tx pa nl).1)) ((finP tx pa nl).2.2.1) (nI ((finP tx pa nl).2.1)) wy za) H := hP
    have hD : va_D (kA w0) (MW a cI z (nI ns) zh (nI nl) tx (nI 1) ((finP tx pa nl).2.2.2) (nI ((finP tx pa nl).1)) ((finP tx pa nl).2.2.1) (nI ((finP tx pa nl).2.1)) wy za) := hD
    refine lv_aload_n hx hb dX5_addAll_46 rfl (lv_at hl 1 rfl) ?_
    refine va_get (D := D) (ci := 5) (v := .int (nI 1)) (C := RX5) (T := TX5) (N := 12) hx hb hts iX5_addAll_5 hown hK hP 0 rfl rfl 5 (by decide) (hts (.fieldLink RX5 25 "HallSightsModel" "thrown" "I") (List.mem_of_getElem? (i := 4) rfl)) (fun _ h9 => h9) rfl dX5_addAll_47 ?_
    refine kx_if_le (tgt := 55) hx hb (by omega) dX5_addAll_50 (by decide) (fun c => absurd c (by omega)) (fun c_50_3 => ?_)
    refine lv_iconst (v := nI 0) hx hb dX5_addAll_53 (by decide) ?_
    have e_4 : (nI 0 : Int32) = (if tAll tx pa nl = 0 then nI (adN z ((finP tx pa nl).2.2.2) ((finP tx pa nl).1 + 1)) else nI 0) := by first | rfl | omega | (simp [tAll, Int32.not_lt, Int32.not_le, c_8_0]; done) | (simp [tAll, Int32.not_lt, Int32.not_le, c_8_0]; omega) | (revert c_8_0; simp +contextual [tAll, Int32.not_lt, Int32.not_le]; done) | (revert c_8_0; simp +contextual [tAll, Int32.not_lt, Int32.not_le]; omega)
    have ec_z_5 : (z : ZZ) = (if tAll tx pa nl = 0 then adZ z ((finP tx pa nl).2.2.2) (adN z ((finP tx pa nl).2.2.2) ((finP tx pa nl).1 + 1)) else z) := by first | rfl | omega | (simp [tAll, Int32.not_lt, Int32.not_le, c_8_0]; done) | (simp [tAll, Int32.not_lt, Int32.not_le, c_8_0]; omega) | (revert c_8_0; simp +contextual [tAll, Int32.not_lt, Int32.not_le]; done) | (revert c_8_0; simp +contextual [tAll, Int32.not_lt, Int32.not_le]; omega)
    have ec_st_6 : ((nI ns) : Int32) = (nI (if tAll tx pa nl = 0 then saveN ns else ns)) := by first | rfl | omega | (simp [tAll, Int32.not_lt, Int32.not_le, c_8_0]; done) | (simp [tAll, Int32.not_lt, Int32.not_le, c_8_0]; omega) | (revert c_8_0; simp +contextual [tAll, Int32.not_lt, Int32.not_le]; done) | (revert c_8_0; simp +contextual [tAll, Int32.not_lt, Int32.not_le]; omega)
    have ec_zh_7 : (zh : ZZ) = (if tAll tx pa nl = 0 then saveH z zh ns else zh) := by first | rfl | omega | (simp [tAll, Int32.not_lt, Int32.not_le, c_8_0]; done) | (simp [tAll, Int32.not_lt, Int32.not_le, c_8_0]; omega) | (revert c_8_0; simp +contextual [tAll, Int32.not_lt, Int32.not_le]; done) | (revert c_8_0; simp +contextual [tAll, Int32.not_lt, Int32.not_le]; omega)
    have ec_le_8 : ((nI nl) : Int32) = (nI (if tAll tx pa nl = 0 then 0 else nl)) := by first | rfl | omega | (simp [tAll, Int32.not_lt, Int32.not_le, c_8_0]; done) | (simp [tAll, Int32.not_lt, Int32.not_le, c_8_0]; omega) | (revert c_8_0; simp +contextual [tAll, Int32.not_lt, Int32.not_le]; done) | (revert c_8_0; simp +contextual [tAll, Int32.not_lt, Int32.not_le]; omega)
    have ec_th_9 : ((nI 1) : Int32) = (nI (tAll tx pa nl)) := by first | rfl | omega | (simp [tAll, Int32.not_lt, Int32.not_le, c_8_0]; done) | (simp [tAll, Int32.not_lt, Int32.not_le, c_8_0]; omega) | (revert c_8_0; simp +contextual [tAll, Int32.not_lt, Int32.not_le]; done) | (revert c_8_0; simp +contextual [tAll, Int32.not_lt, Int32.not_le]; omega)
    have ew_10 : (MW a cI z (nI ns) zh (nI nl) tx (nI 1) ((finP tx pa nl).2.2.2) (nI ((finP tx pa nl).1)) ((finP tx pa nl).2.2.1) (nI ((finP tx pa nl).2.1)) wy za : va_W) = (MW a cI (if tAll tx pa nl = 0 then adZ z ((finP tx pa nl).2.2.2) (adN z ((finP tx pa nl).2.2.2) ((finP tx pa nl).1 + 1)) else z) (nI (if tAll tx pa nl = 0 then saveN ns else ns)) (if tAll tx pa nl = 0 then saveH z zh ns else zh) (nI (if tAll tx pa nl = 0 then 0 else nl)) tx (nI (tAll tx pa nl)) ((finP tx pa nl).2.2.2) (nI ((finP tx pa nl).1)) ((finP tx pa nl).2.2.1) (nI ((finP tx pa nl).2.1)) wy za) := mw_c ec_z_5 ec_st_6 ec_zh_7 ec_le_8 rfl ec_th_9 rfl rfl rfl rfl rfl rfl
    rw [ew_10] at hP hD
    subst hw0
    exact kq_iret hx hb hrt hlocks e_4 hP hD hS dX5_addAll_54
  · refine lv_aload_n hx hb dX5_addAll_11 rfl (lv_at hl 0 rfl) ?_
    refine va_get (D := D) (ci := 5) (v := .int (nI ((finP tx pa nl).2.1))) (C := RX5) (T := TX5) (N := 12) hx hb hts iX5_addAll_5 hown hK hP 0 rfl rfl 9 (by decide) (hts (.fieldLink RX5 137 "HallSightsModel" "part" "I") (List.mem_of_getElem? (i := 2) rfl)) (fun _ h9 => h9) rfl dX5_addAll_12 ?_
    refine lv_iconst (v := nI 2) hx hb dX5_addAll_15 (by decide) ?_
    refine kx_icmp_ne (tgt := 31) hx hb (by omega) (by omega) dX5_addAll_16 (by decide) (fun c_16_11 => ?_) (fun c_16_12 => ?_)
    · refine lv_iconst (v := nI 0) hx hb dX5_addAll_31 (by decide) ?_
      refine lv_istore_n (lv' := [(1, .int (nI 0)), (0, .ref (a 0))]) hx hb dX5_addAll_32 rfl hl (by decide) rfl (fun ls hl => ?_)
      refine lv_aload_n hx hb dX5_addAll_33 rfl (lv_at hl 1 rfl) ?_
      refine lv_iload_n hx hb dX5_addAll_34 rfl (lv_at hl 0 rfl) ?_
      refine kx_if_eq (tgt := 42) hx hb (by omega) dX5_addAll_35 (by decide) (fun c_35_13 => ?_) (fun c => absurd c (by omega))
      refine lv_iconst (v := nI 1) hx hb dX5_addAll_42 (by decide) ?_
      refine va_put (D := D) (ci := 5) (v := .int (nI 1)) (ty := .int) (C := RX5) (T := TX5) (N := 12) hx hb hts iX5_addAll_5 tyX5 tyX5_ok nmX5 hown hK hP hD hS 0 rfl rfl 5 (by decide) (hts (.fieldLink RX5 25 "HallSightsModel" "thrown" "I") (List.mem_of_getElem? (i := 4) rfl)) (fun _ h9 => h9) rfl (by decide +kernel) rfl rfl (Nat.le_of_ble_eq_true rfl) dX5_addAll_43 (fun H locs hP hD hS => ?_)
      have hP : va_P D vwCl (MW a cI z (nI ns) zh (nI nl) tx (nI 1) ((finP tx pa nl).2.2.2) (nI ((finP tx pa nl).1)) ((finP tx pa nl).2.2.1) (nI ((finP tx pa nl).2.1)) wy za) H := hP
      have hD : va_D (kA w0) (MW a cI z (nI ns) zh (nI nl) tx (nI 1) ((finP tx pa nl).2.2.2) (nI ((finP tx pa nl).1)) ((finP tx pa nl).2.2.1) (nI ((finP tx pa nl).2.1)) wy za) := hD
      refine lv_aload_n hx hb dX5_addAll_46 rfl (lv_at hl 1 rfl) ?_
      refine va_get (D := D) (ci := 5) (v := .int (nI 1)) (C := RX5) (T := TX5) (N := 12) hx hb hts iX5_addAll_5 hown hK hP 0 rfl rfl 5 (by decide) (hts (.fieldLink RX5 25 "HallSightsModel" "thrown" "I") (List.mem_of_getElem? (i := 4) rfl)) (fun _ h9 => h9) rfl dX5_addAll_47 ?_
      refine kx_if_le (tgt := 55) hx hb (by omega) dX5_addAll_50 (by decide) (fun c => absurd c (by omega)) (fun c_50_14 => ?_)
      refine lv_iconst (v := nI 0) hx hb dX5_addAll_53 (by decide) ?_
      have e_15 : (nI 0 : Int32) = (if tAll tx pa nl = 0 then nI (adN z ((finP tx pa nl).2.2.2) ((finP tx pa nl).1 + 1)) else nI 0) := by first | rfl | omega | (simp [tAll, Int32.not_lt, Int32.not_le, c_8_1, c_16_11]; done) | (simp [tAll, Int32.not_lt, Int32.not_le, c_8_1, c_16_11]; omega) | (revert c_8_1 c_16_11; simp +contextual [tAll, Int32.not_lt, Int32.not_le]; done) | (revert c_8_1 c_16_11; simp +contextual [tAll, Int32.not_lt, Int32.not_le]; omega) | (subst c_8_1; simp [tAll, Int32.not_lt, Int32.not_le, c_16_11]; done)
      have ec_z_16 : (z : ZZ) = (if tAll tx pa nl = 0 then adZ z ((finP tx pa nl).2.2.2) (adN z ((finP tx pa nl).2.2.2) ((finP tx pa nl).1 + 1)) else z) := by first | rfl | omega | (simp [tAll, Int32.not_lt, Int32.not_le, c_8_1, c_16_11]; done) | (simp [tAll, Int32.not_lt, Int32.not_le, c_8_1, c_16_11]; omega) | (revert c_8_1 c_16_11; simp +contextual [tAll, Int32.not_lt, Int32.not_le]; done) | (revert c_8_1 c_16_11; simp +contextual [tAll, Int32.not_lt, Int32.not_le]; omega) | (subst c_8_1; simp [tAll, Int32.not_lt, Int32.not_le, c_16_11]; done)
      have ec_st_17 : ((nI ns) : Int32) = (nI (if tAll tx pa nl = 0 then saveN ns else ns)) := by first | rfl | omega | (simp [tAll, Int32.not_lt, Int32.not_le, c_8_1, c_16_11]; done) | (simp [tAll, Int32.not_lt, Int32.not_le, c_8_1, c_16_11]; omega) | (revert c_8_1 c_16_11; simp +contextual [tAll, Int32.not_lt, Int32.not_le]; done) | (revert c_8_1 c_16_11; simp +contextual [tAll, Int32.not_lt, Int32.not_le]; omega) | (subst c_8_1; simp [tAll, Int32.not_lt, Int32.not_le, c_16_11]; done)
      have ec_zh_18 : (zh : ZZ) = (if tAll tx pa nl = 0 then saveH z zh ns else zh) := by first | rfl | omega | (simp [tAll, Int32.not_lt, Int32.not_le, c_8_1, c_16_11]; done) | (simp [tAll, Int32.not_lt, Int32.not_le, c_8_1, c_16_11]; omega) | (revert c_8_1 c_16_11; simp +contextual [tAll, Int32.not_lt, Int32.not_le]; done) | (revert c_8_1 c_16_11; simp +contextual [tAll, Int32.not_lt, Int32.not_le]; omega) | (subst c_8_1; simp [tAll, Int32.not_lt, Int32.not_le, c_16_11]; done)
      have ec_le_19 : ((nI nl) : Int32) = (nI (if tAll tx pa nl = 0 then 0 else nl)) := by first | rfl | omega | (simp [tAll, Int32.not_lt, Int32.not_le, c_8_1, c_16_11]; done) | (simp [tAll, Int32.not_lt, Int32.not_le, c_8_1, c_16_11]; omega) | (revert c_8_1 c_16_11; simp +contextual [tAll, Int32.not_lt, Int32.not_le]; done) | (revert c_8_1 c_16_11; simp +contextual [tAll, Int32.not_lt, Int32.not_le]; omega) | (subst c_8_1; simp [tAll, Int32.not_lt, Int32.not_le, c_16_11]; done)
      have ec_th_20 : ((nI 1) : Int32) = (nI (tAll tx pa nl)) := by first | rfl | omega | (simp [tAll, Int32.not_lt, Int32.not_le, c_8_1, c_16_11]; done) | (simp [tAll, Int32.not_lt, Int32.not_le, c_8_1, c_16_11]; omega) | (revert c_8_1 c_16_11; simp +contextual [tAll, Int32.not_lt, Int32.not_le]; done) | (revert c_8_1 c_16_11; simp +contextual [tAll, Int32.not_lt, Int32.not_le]; omega) | (subst c_8_1; simp [tAll, Int32.not_lt, Int32.not_le, c_16_11]; done)
      have ew_21 : (MW a cI z (nI ns) zh (nI nl) tx (nI 1) ((finP tx pa nl).2.2.2) (nI ((finP tx pa nl).1)) ((finP tx pa nl).2.2.1) (nI ((finP tx pa nl).2.1)) wy za : va_W) = (MW a cI (if tAll tx pa nl = 0 then adZ z ((finP tx pa nl).2.2.2) (adN z ((finP tx pa nl).2.2.2) ((finP tx pa nl).1 + 1)) else z) (nI (if tAll tx pa nl = 0 then saveN ns else ns)) (if tAll tx pa nl = 0 then saveH z zh ns else zh) (nI (if tAll tx pa nl = 0 then 0 else nl)) tx (nI (tAll tx pa nl)) ((finP tx pa nl).2.2.2) (nI ((finP tx pa nl).1)) ((finP tx pa nl).2.2.1) (nI ((finP tx pa nl).2.1)) wy za) := mw_c ec_z_16 ec_st_17 ec_zh_18 ec_le_19 rfl ec_th_20 rfl rfl rfl rfl rfl rfl
      rw [ew_21] at hP hD
      subst hw0
      exact kq_iret hx hb hrt hlocks e_15 hP hD hS dX5_addAll_54
    · refine lv_aload_n hx hb dX5_addAll_19 rfl (lv_at hl 0 rfl) ?_
      refine va_get (D := D) (ci := 5) (v := .int ((finP tx pa nl).2.2.1)) (C := RX5) (T := TX5) (N := 12) hx hb hts iX5_addAll_5 hown hK hP 0 rfl rfl 8 (by decide) (hts (.fieldLink RX5 134 "HallSightsModel" "number" "I") (List.mem_of_getElem? (i := 3) rfl)) (fun _ h9 => h9) rfl dX5_addAll_20 ?_
      refine lv_iconst (v := (-1)) hx hb dX5_addAll_23 (by decide) ?_
      refine lv_icmp_eq (tgt := 31) hx hb dX5_addAll_24 (by decide) (fun c_24_22 => ?_) (fun c_24_23 => ?_)
      · have c_24_22 : (((finP tx pa nl).2.2.1) : Int32) = (-1) := c_24_22
        refine lv_iconst (v := nI 0) hx hb dX5_addAll_31 (by decide) ?_
        refine lv_istore_n (lv' := [(1, .int (nI 0)), (0, .ref (a 0))]) hx hb dX5_addAll_32 rfl hl (by decide) rfl (fun ls hl => ?_)
        refine lv_aload_n hx hb dX5_addAll_33 rfl (lv_at hl 1 rfl) ?_
        refine lv_iload_n hx hb dX5_addAll_34 rfl (lv_at hl 0 rfl) ?_
        refine kx_if_eq (tgt := 42) hx hb (by omega) dX5_addAll_35 (by decide) (fun c_35_24 => ?_) (fun c => absurd c (by omega))
        refine lv_iconst (v := nI 1) hx hb dX5_addAll_42 (by decide) ?_
        refine va_put (D := D) (ci := 5) (v := .int (nI 1)) (ty := .int) (C := RX5) (T := TX5) (N := 12) hx hb hts iX5_addAll_5 tyX5 tyX5_ok nmX5 hown hK hP hD hS 0 rfl rfl 5 (by decide) (hts (.fieldLink RX5 25 "HallSightsModel" "thrown" "I") (List.mem_of_getElem? (i := 4) rfl)) (fun _ h9 => h9) rfl (by decide +kernel) rfl rfl (Nat.le_of_ble_eq_true rfl) dX5_addAll_43 (fun H locs hP hD hS => ?_)
        have hP : va_P D vwCl (MW a cI z (nI ns) zh (nI nl) tx (nI 1) ((finP tx pa nl).2.2.2) (nI ((finP tx pa nl).1)) ((finP tx pa nl).2.2.1) (nI ((finP tx pa nl).2.1)) wy za) H := hP
        have hD : va_D (kA w0) (MW a cI z (nI ns) zh (nI nl) tx (nI 1) ((finP tx pa nl).2.2.2) (nI ((finP tx pa nl).1)) ((finP tx pa nl).2.2.1) (nI ((finP tx pa nl).2.1)) wy za) := hD
        refine lv_aload_n hx hb dX5_addAll_46 rfl (lv_at hl 1 rfl) ?_
        refine va_get (D := D) (ci := 5) (v := .int (nI 1)) (C := RX5) (T := TX5) (N := 12) hx hb hts iX5_addAll_5 hown hK hP 0 rfl rfl 5 (by decide) (hts (.fieldLink RX5 25 "HallSightsModel" "thrown" "I") (List.mem_of_getElem? (i := 4) rfl)) (fun _ h9 => h9) rfl dX5_addAll_47 ?_
        refine kx_if_le (tgt := 55) hx hb (by omega) dX5_addAll_50 (by decide) (fun c => absurd c (by omega)) (fun c_50_25 => ?_)
        refine lv_iconst (v := nI 0) hx hb dX5_addAll_53 (by decide) ?_
        have e_26 : (nI 0 : Int32) = (if tAll tx pa nl = 0 then nI (adN z ((finP tx pa nl).2.2.2) ((finP tx pa nl).1 + 1)) else nI 0) := by first | rfl | omega | (simp [tAll, Int32.not_lt, Int32.not_le, c_8_1, c_16_12, c_24_22]; done) | (simp [tAll, Int32.not_lt, Int32.not_le, c_8_1, c_16_12, c_24_22]; omega) | (revert c_8_1 c_16_12 c_24_22; simp +contextual [tAll, Int32.not_lt, Int32.not_le]; done) | (revert c_8_1 c_16_12 c_24_22; simp +contextual [tAll, Int32.not_lt, Int32.not_le]; omega) | (subst c_8_1; simp [tAll, Int32.not_lt, Int32.not_le, c_16_12, c_24_22]; done)
        have ec_z_27 : (z : ZZ) = (if tAll tx pa nl = 0 then adZ z ((finP tx pa nl).2.2.2) (adN z ((finP tx pa nl).2.2.2) ((finP tx pa nl).1 + 1)) else z) := by first | rfl | omega | (simp [tAll, Int32.not_lt, Int32.not_le, c_8_1, c_16_12, c_24_22]; done) | (simp [tAll, Int32.not_lt, Int32.not_le, c_8_1, c_16_12, c_24_22]; omega) | (revert c_8_1 c_16_12 c_24_22; simp +contextual [tAll, Int32.not_lt, Int32.not_le]; done) | (revert c_8_1 c_16_12 c_24_22; simp +contextual [tAll, Int32.not_lt, Int32.not_le]; omega) | (subst c_8_1; simp [tAll, Int32.not_lt, Int32.not_le, c_16_12, c_24_22]; done)
        have ec_st_28 : ((nI ns) : Int32) = (nI (if tAll tx pa nl = 0 then saveN ns else ns)) := by first | rfl | omega | (simp [tAll, Int32.not_lt, Int32.not_le, c_8_1, c_16_12, c_24_22]; done) | (simp [tAll, Int32.not_lt, Int32.not_le, c_8_1, c_16_12, c_24_22]; omega) | (revert c_8_1 c_16_12 c_24_22; simp +contextual [tAll, Int32.not_lt, Int32.not_le]; done) | (revert c_8_1 c_16_12 c_24_22; simp +contextual [tAll, Int32.not_lt, Int32.not_le]; omega) | (subst c_8_1; simp [tAll, Int32.not_lt, Int32.not_le, c_16_12, c_24_22]; done)
        have ec_zh_29 : (zh : ZZ) = (if tAll tx pa nl = 0 then saveH z zh ns else zh) := by first | rfl | omega | (simp [tAll, Int32.not_lt, Int32.not_le, c_8_1, c_16_12, c_24_22]; done) | (simp [tAll, Int32.not_lt, Int32.not_le, c_8_1, c_16_12, c_24_22]; omega) | (revert c_8_1 c_16_12 c_24_22; simp +contextual [tAll, Int32.not_lt, Int32.not_le]; done) | (revert c_8_1 c_16_12 c_24_22; simp +contextual [tAll, Int32.not_lt, Int32.not_le]; omega) | (subst c_8_1; simp [tAll, Int32.not_lt, Int32.not_le, c_16_12, c_24_22]; done)
        have ec_le_30 : ((nI nl) : Int32) = (nI (if tAll tx pa nl = 0 then 0 else nl)) := by first | rfl | omega | (simp [tAll, Int32.not_lt, Int32.not_le, c_8_1, c_16_12, c_24_22]; done) | (simp [tAll, Int32.not_lt, Int32.not_le, c_8_1, c_16_12, c_24_22]; omega) | (revert c_8_1 c_16_12 c_24_22; simp +contextual [tAll, Int32.not_lt, Int32.not_le]; done) | (revert c_8_1 c_16_12 c_24_22; simp +contextual [tAll, Int32.not_lt, Int32.not_le]; omega) | (subst c_8_1; simp [tAll, Int32.not_lt, Int32.not_le, c_16_12, c_24_22]; done)
        have ec_th_31 : ((nI 1) : Int32) = (nI (tAll tx pa nl)) := by first | rfl | omega | (simp [tAll, Int32.not_lt, Int32.not_le, c_8_1, c_16_12, c_24_22]; done) | (simp [tAll, Int32.not_lt, Int32.not_le, c_8_1, c_16_12, c_24_22]; omega) | (revert c_8_1 c_16_12 c_24_22; simp +contextual [tAll, Int32.not_lt, Int32.not_le]; done) | (revert c_8_1 c_16_12 c_24_22; simp +contextual [tAll, Int32.not_lt, Int32.not_le]; omega) | (subst c_8_1; simp [tAll, Int32.not_lt, Int32.not_le, c_16_12, c_24_22]; done)
        have ew_32 : (MW a cI z (nI ns) zh (nI nl) tx (nI 1) ((finP tx pa nl).2.2.2) (nI ((finP tx pa nl).1)) ((finP tx pa nl).2.2.1) (nI ((finP tx pa nl).2.1)) wy za : va_W) = (MW a cI (if tAll tx pa nl = 0 then adZ z ((finP tx pa nl).2.2.2) (adN z ((finP tx pa nl).2.2.2) ((finP tx pa nl).1 + 1)) else z) (nI (if tAll tx pa nl = 0 then saveN ns else ns)) (if tAll tx pa nl = 0 then saveH z zh ns else zh) (nI (if tAll tx pa nl = 0 then 0 else nl)) tx (nI (tAll tx pa nl)) ((finP tx pa nl).2.2.2) (nI ((finP tx pa nl).1)) ((finP tx pa nl).2.2.1) (nI ((finP tx pa nl).2.1)) wy za) := mw_c ec_z_27 ec_st_28 ec_zh_29 ec_le_30 rfl ec_th_31 rfl rfl rfl rfl rfl rfl
        rw [ew_32] at hP hD
        subst hw0
        exact kq_iret hx hb hrt hlocks e_26 hP hD hS dX5_addAll_54
      · have c_24_23 : ¬ (((finP tx pa nl).2.2.1) : Int32) = (-1) := c_24_23
        refine lv_iconst (v := nI 1) hx hb dX5_addAll_27 (by decide) ?_
        refine lv_goto (tgt := 32) hx hb dX5_addAll_28 (by decide) ?_
        refine lv_istore_n (lv' := [(1, .int (nI 1)), (0, .ref (a 0))]) hx hb dX5_addAll_32 rfl hl (by decide) rfl (fun ls hl => ?_)
        refine lv_aload_n hx hb dX5_addAll_33 rfl (lv_at hl 1 rfl) ?_
        refine lv_iload_n hx hb dX5_addAll_34 rfl (lv_at hl 0 rfl) ?_
        refine kx_if_eq (tgt := 42) hx hb (by omega) dX5_addAll_35 (by decide) (fun c => absurd c (by omega)) (fun c_35_33 => ?_)
        refine lv_iconst (v := nI 0) hx hb dX5_addAll_38 (by decide) ?_
        refine lv_goto (tgt := 43) hx hb dX5_addAll_39 (by decide) ?_
        refine va_put (D := D) (ci := 5) (v := .int (nI 0)) (ty := .int) (C := RX5) (T := TX5) (N := 12) hx hb hts iX5_addAll_5 tyX5 tyX5_ok nmX5 hown hK hP hD hS 0 rfl rfl 5 (by decide) (hts (.fieldLink RX5 25 "HallSightsModel" "thrown" "I") (List.mem_of_getElem? (i := 4) rfl)) (fun _ h9 => h9) rfl (by decide +kernel) rfl rfl (Nat.le_of_ble_eq_true rfl) dX5_addAll_43 (fun H locs hP hD hS => ?_)
        have hP : va_P D vwCl (MW a cI z (nI ns) zh (nI nl) tx (nI 0) ((finP tx pa nl).2.2.2) (nI ((finP tx pa nl).1)) ((finP tx pa nl).2.2.1) (nI ((finP tx pa nl).2.1)) wy za) H := hP
        have hD : va_D (kA w0) (MW a cI z (nI ns) zh (nI nl) tx (nI 0) ((finP tx pa nl).2.2.2) (nI ((finP tx pa nl).1)) ((finP tx pa nl).2.2.1) (nI ((finP tx pa nl).2.1)) wy za) := hD
        refine lv_aload_n hx hb dX5_addAll_46 rfl (lv_at hl 1 rfl) ?_
        refine va_get (D := D) (ci := 5) (v := .int (nI 0)) (C := RX5) (T := TX5) (N := 12) hx hb hts iX5_addAll_5 hown hK hP 0 rfl rfl 5 (by decide) (hts (.fieldLink RX5 25 "HallSightsModel" "thrown" "I") (List.mem_of_getElem? (i := 4) rfl)) (fun _ h9 => h9) rfl dX5_addAll_47 ?_
        refine kx_if_le (tgt := 55) hx hb (by omega) dX5_addAll_50 (by decide) (fun c_50_34 => ?_) (fun c => absurd c (by omega))
        have hT : tAll tx pa nl = 0 := by unfold tAll; simp [c_8_1, c_16_12, c_24_23]
        obtain ⟨hf1, hf2, hf3, hf4⟩ := fin_ok hT
        refine lv_aload_n hx hb dX5_addAll_55 rfl (lv_at hl 1 rfl) ?_
        refine kw_V (As := []) (rest := []) (C := RX5) (own := RX5) ⟨hx, hb, hml, hown, hts⟩ (c_X5_save l D cI cC cH cL a z zh tx ((finP tx pa nl).2.2.2) wy ns nl (nI 0) (nI ((finP tx pa nl).1)) ((finP tx pa nl).2.2.1) (nI ((finP tx pa nl).2.1)) za  (by first | assumption | omega)) (cwV 0 hts gX5_addAll_X5_save rfl rfl rfl k_X5_save ⟨Nat.le_of_ble_eq_true rfl, Nat.le_of_ble_eq_true rfl⟩) hP hD hK hS [0, 1, 2, 3, 4, 5] [] rfl rfl (wr := []) rfl (by decide) (by decide) (by decide) (va_recv (q := (RX5, TX5, 12)) hK hP (ci := 5) (q0 := 0) rfl rfl) rfl hl.1 rfl (Nat.le_of_ble_eq_true rfl) dX5_addAll_56 ⟨Nat.le_of_ble_eq_true rfl, Nat.le_of_ble_eq_true rfl⟩ (fun H locs hP hD hS => ?_)
        have hP : va_P D vwCl (MW a cI z (nI (saveN ns)) (saveH z zh ns) (nI nl) tx (nI 0) ((finP tx pa nl).2.2.2) (nI ((finP tx pa nl).1)) ((finP tx pa nl).2.2.1) (nI ((finP tx pa nl).2.1)) wy za) H := hP
        have hD : va_D (kA w0) (MW a cI z (nI (saveN ns)) (saveH z zh ns) (nI nl) tx (nI 0) ((finP tx pa nl).2.2.2) (nI ((finP tx pa nl).1)) ((finP tx pa nl).2.2.1) (nI ((finP tx pa nl).2.1)) wy za) := hD
        refine lv_aload_n hx hb dX5_addAll_59 rfl (lv_at hl 1 rfl) ?_
        refine lv_iconst (v := nI 0) hx hb dX5_addAll_60 (by decide) ?_
        refine va_put (D := D) (ci := 5) (v := .int (nI 0)) (ty := .int) (C := RX5) (T := TX5) (N := 12) hx hb hts iX5_addAll_5 tyX5 tyX5_ok nmX5 hown hK hP hD hS 0 rfl rfl 3 (by decide) (hts (.fieldLink RX5 131 "HallSightsModel" "length" "I") (List.mem_of_getElem? (i := 1) rfl)) (fun _ h9 => h9) rfl (by decide +kernel) rfl rfl (Nat.le_of_ble_eq_true rfl) dX5_addAll_61 (fun H locs hP hD hS => ?_)
        have hP : va_P D vwCl (MW a cI z (nI (saveN ns)) (saveH z zh ns) (nI 0) tx (nI 0) ((finP tx pa nl).2.2.2) (nI ((finP tx pa nl).1)) ((finP tx pa nl).2.2.1) (nI ((finP tx pa nl).2.1)) wy za) H := hP
        have hD : va_D (kA w0) (MW a cI z (nI (saveN ns)) (saveH z zh ns) (nI 0) tx (nI 0) ((finP tx pa nl).2.2.2) (nI ((finP tx pa nl).1)) ((finP tx pa nl).2.2.1) (nI ((finP tx pa nl).2.1)) wy za) := hD
        refine lv_iconst (v := nI 0) hx hb dX5_addAll_64 (by decide) ?_
        refine lv_istore_n (lv' := [(2, .int (nI 0)), (1, .int (nI 1)), (0, .ref (a 0))]) hx hb dX5_addAll_65 rfl hl (by decide) rfl (fun ls hl => ?_)
        have ec_z_35 : (z : ZZ) = (adZ z ((finP tx pa nl).2.2.2) 0) := by first | rfl | omega | (simp [tAll, Int32.not_lt, Int32.not_le, c_8_1, c_16_12, c_24_23, hT]; done) | (simp [tAll, Int32.not_lt, Int32.not_le, c_8_1, c_16_12, c_24_23, hT]; omega) | (revert c_8_1 c_16_12 c_24_23 hT; simp +contextual [tAll, Int32.not_lt, Int32.not_le]; done) | (revert c_8_1 c_16_12 c_24_23 hT; simp +contextual [tAll, Int32.not_lt, Int32.not_le]; omega) | (subst c_8_1; simp [tAll, Int32.not_lt, Int32.not_le, c_16_12, c_24_23, hT]; done)
        have ew_36 : (MW a cI z (nI (saveN ns)) (saveH z zh ns) (nI 0) tx (nI 0) ((finP tx pa nl).2.2.2) (nI ((finP tx pa nl).1)) ((finP tx pa nl).2.2.1) (nI ((finP tx pa nl).2.1)) wy za : va_W) = (MW a cI (adZ z ((finP tx pa nl).2.2.2) 0) (nI (saveN ns)) (saveH z zh ns) (nI 0) tx (nI 0) ((finP tx pa nl).2.2.2) (nI ((finP tx pa nl).1)) ((finP tx pa nl).2.2.1) (nI ((finP tx pa nl).2.1)) wy za) := mw_c ec_z_35 rfl rfl rfl rfl rfl rfl rfl rfl rfl rfl rfl
        rw [ew_36] at hP hD
        refine kx_upW (fun k H locs ls => (va_P D vwCl (MW a cI (adZ z ((finP tx pa nl).2.2.2) k) (nI (saveN ns)) (saveH z zh ns) (nI 0) tx (nI 0) ((finP tx pa nl).2.2.2) (nI ((finP tx pa nl).1)) ((finP tx pa nl).2.2.1) (nI ((finP tx pa nl).2.1)) wy za) H ∧ va_D (kA w0) (MW a cI (adZ z ((finP tx pa nl).2.2.2) k) (nI (saveN ns)) (saveH z zh ns) (nI 0) tx (nI 0) ((finP tx pa nl).2.2.2) (nI ((finP tx pa nl).1)) ((finP tx pa nl).2.2.1) (nI ((finP tx pa nl).2.1)) wy za) ∧ va_S (kA w0) s.heap H locs) ∧ lv_has ls 4 [(0, .ref (a 0)), (2, .int (nI k))] ∧ (adN z ((finP tx pa nl).2.2.2) k = k)) (0) ((finP tx pa nl).1 + 1) (by omega) _ _ ls ⟨⟨hP, hD, hS⟩, ⟨(lv_sub hl [2, 0] rfl), rfl⟩⟩ ?_
        clear hP hD hS
        intro ik H locs ls hikl hikh hp ih66
        obtain ⟨⟨hP, hD, hS⟩, hp⟩ := hp
        obtain ⟨hl, hinv66⟩ := hp
        have hwk := adZ_wf hw hf4 (k := ik) (by omega) hinv66
        refine lv_iload_n hx hb dX5_addAll_66 rfl (lv_at hl 1 rfl) ?_
        refine lv_aload_n hx hb dX5_addAll_67 rfl (lv_at hl 0 rfl) ?_
        refine va_get (D := D) (ci := 5) (v := .int (nI ((finP tx pa nl).1))) (C := RX5) (T := TX5) (N := 12) hx hb hts iX5_addAll_5 hown hK hP 0 rfl rfl 7 (by decide) (hts (.fieldLink RX5 140 "HallSightsModel" "read" "I") (List.mem_of_getElem? (i := 5) rfl)) (fun _ h9 => h9) rfl dX5_addAll_68 ?_
        refine kx_icmp_gt (tgt := 128) hx hb (by omega) (by omega) dX5_addAll_71 (by decide) (fun c_71_37 => ?_) (fun c_71_38 => ?_)
        · refine lv_iload_n hx hb dX5_addAll_128 rfl (lv_at hl 1 rfl) ?_
          have e_39 : (nI ik : Int32) = (if tAll tx pa nl = 0 then nI (adN z ((finP tx pa nl).2.2.2) ((finP tx pa nl).1 + 1)) else nI 0) := by first | (rw [if_pos hT, show (finP tx pa nl).1 + 1 = ik by omega, hinv66]) | (rw [if_pos hT, adN_stop hinv66 (by omega) (by assumption)]) | simp [tAll, c_8_1, c_16_12, c_24_23, hT, c_71_37, Nat.not_le.mpr c_71_37]
          have ec_z_40 : ((adZ z ((finP tx pa nl).2.2.2) ik) : ZZ) = (if tAll tx pa nl = 0 then adZ z ((finP tx pa nl).2.2.2) (adN z ((finP tx pa nl).2.2.2) ((finP tx pa nl).1 + 1)) else z) := by first | (rw [if_pos hT, show (finP tx pa nl).1 + 1 = ik by omega, hinv66]) | (rw [if_pos hT, adN_stop hinv66 (by omega) (by assumption)]) | simp [tAll, c_8_1, c_16_12, c_24_23, hT, c_71_37, Nat.not_le.mpr c_71_37]
          have ec_st_41 : ((nI (saveN ns)) : Int32) = (nI (if tAll tx pa nl = 0 then saveN ns else ns)) := by first | rfl | omega | (simp [tAll, Int32.not_lt, Int32.not_le, c_8_1, c_16_12, c_24_23, hT, c_71_37, Nat.not_le.mpr c_71_37]; done) | (simp [tAll, Int32.not_lt, Int32.not_le, c_8_1, c_16_12, c_24_23, hT, c_71_37, Nat.not_le.mpr c_71_37]; omega) | (revert c_8_1 c_16_12 c_24_23 hT c_71_37; simp +contextual [tAll, Int32.not_lt, Int32.not_le]; done) | (revert c_8_1 c_16_12 c_24_23 hT c_71_37; simp +contextual [tAll, Int32.not_lt, Int32.not_le]; omega) | (subst c_8_1; simp [tAll, Int32.not_lt, Int32.not_le, c_16_12, c_24_23, hT, c_71_37, Nat.not_le.mpr c_71_37]; done)
          have ec_zh_42 : ((saveH z zh ns) : ZZ) = (if tAll tx pa nl = 0 then saveH z zh ns else zh) := by first | rfl | omega | (simp [tAll, Int32.not_lt, Int32.not_le, c_8_1, c_16_12, c_24_23, hT, c_71_37, Nat.not_le.mpr c_71_37]; done) | (simp [tAll, Int32.not_lt, Int32.not_le, c_8_1, c_16_12, c_24_23, hT, c_71_37, Nat.not_le.mpr c_71_37]; omega) | (revert c_8_1 c_16_12 c_24_23 hT c_71_37; simp +contextual [tAll, Int32.not_lt, Int32.not_le]; done) | (revert c_8_1 c_16_12 c_24_23 hT c_71_37; simp +contextual [tAll, Int32.not_lt, Int32.not_le]; omega) | (subst c_8_1; simp [tAll, Int32.not_lt, Int32.not_le, c_16_12, c_24_23, hT, c_71_37, Nat.not_le.mpr c_71_37]; done)
          have ec_le_43 : ((nI 0) : Int32) = (nI (if tAll tx pa nl = 0 then 0 else nl)) := by first | rfl | omega | (simp [tAll, Int32.not_lt, Int32.not_le, c_8_1, c_16_12, c_24_23, hT, c_71_37, Nat.not_le.mpr c_71_37]; done) | (simp [tAll, Int32.not_lt, Int32.not_le, c_8_1, c_16_12, c_24_23, hT, c_71_37, Nat.not_le.mpr c_71_37]; omega) | (revert c_8_1 c_16_12 c_24_23 hT c_71_37; simp +contextual [tAll, Int32.not_lt, Int32.not_le]; done) | (revert c_8_1 c_16_12 c_24_23 hT c_71_37; simp +contextual [tAll, Int32.not_lt, Int32.not_le]; omega) | (subst c_8_1; simp [tAll, Int32.not_lt, Int32.not_le, c_16_12, c_24_23, hT, c_71_37, Nat.not_le.mpr c_71_37]; done)
          have ec_th_44 : ((nI 0) : Int32) = (nI (tAll tx pa nl)) := by first | rfl | omega | (simp [tAll, Int32.not_lt, Int32.not_le, c_8_1, c_16_12, c_24_23, hT, c_71_37, Nat.not_le.mpr c_71_37]; done) | (simp [tAll, Int32.not_lt, Int32.not_le, c_8_1, c_16_12, c_24_23, hT, c_71_37, Nat.not_le.mpr c_71_37]; omega) | (revert c_8_1 c_16_12 c_24_23 hT c_71_37; simp +contextual [tAll, Int32.not_lt, Int32.not_le]; done) | (revert c_8_1 c_16_12 c_24_23 hT c_71_37; simp +contextual [tAll, Int32.not_lt, Int32.not_le]; omega) | (subst c_8_1; simp [tAll, Int32.not_lt, Int32.not_le, c_16_12, c_24_23, hT, c_71_37, Nat.not_le.mpr c_71_37]; done)
          have ew_45 : (MW a cI (adZ z ((finP tx pa nl).2.2.2) ik) (nI (saveN ns)) (saveH z zh ns) (nI 0) tx (nI 0) ((finP tx pa nl).2.2.2) (nI ((finP tx pa nl).1)) ((finP tx pa nl).2.2.1) (nI ((finP tx pa nl).2.1)) wy za : va_W) = (MW a cI (if tAll tx pa nl = 0 then adZ z ((finP tx pa nl).2.2.2) (adN z ((finP tx pa nl).2.2.2) ((finP tx pa nl).1 + 1)) else z) (nI (if tAll tx pa nl = 0 then saveN ns else ns)) (if tAll tx pa nl = 0 then saveH z zh ns else zh) (nI (if tAll tx pa nl = 0 then 0 else nl)) tx (nI (tAll tx pa nl)) ((finP tx pa nl).2.2.2) (nI ((finP tx pa nl).1)) ((finP tx pa nl).2.2.1) (nI ((finP tx pa nl).2.1)) wy za) := mw_c ec_z_40 ec_st_41 ec_zh_42 ec_le_43 rfl ec_th_44 rfl rfl rfl rfl rfl rfl
          rw [ew_45] at hP hD
          subst hw0
          exact kq_iret hx hb hrt hlocks e_39 hP hD hS dX5_addAll_129
        · refine lv_aload_n hx hb dX5_addAll_74 rfl (lv_at hl 0 rfl) ?_
          refine lv_aload_n hx hb dX5_addAll_75 rfl (lv_at hl 0 rfl) ?_
          refine va_get (D := D) (ci := 5) (v := .ref (a 4)) (C := RX5) (T := TX5) (N := 12) hx hb hts iX5_addAll_5 hown hK hP 0 rfl rfl 6 (by decide) (hts (.fieldLink RX5 19 "HallSightsModel" "parts" "[I") (List.mem_of_getElem? (i := 6) rfl)) (fun _ h9 => h9) rfl dX5_addAll_76 ?_
          refine lv_iconst (v := nI 3) hx hb dX5_addAll_79 (by decide) ?_
          refine lv_iload_n hx hb dX5_addAll_80 rfl (lv_at hl 1 rfl) ?_
          refine kx_imul hx hb dX5_addAll_81 ?_
          refine kx_iald hx hb hK hP 4 0 rfl rfl (by omega) (by decide) dX5_addAll_82 ?_
          refine kr_V (As := [.int (((finP tx pa nl).2.2.2) (3 * ik))]) (rest := []) (C := RX5) (own := RX5) ⟨hx, hb, hml, hown, hts⟩ (c_X5_canAddRow l D cI cC cH cL a (adZ z ((finP tx pa nl).2.2.2) ik) (saveH z zh ns) tx ((finP tx pa nl).2.2.2) wy (nI (saveN ns)) (nI 0) (nI 0) (nI ((finP tx pa nl).1)) ((finP tx pa nl).2.2.1) (nI ((finP tx pa nl).2.1)) za (((finP tx pa nl).2.2.2) (3 * ik)) (by exact hwk)) (cwV 1 hts gX5_addAll_X5_canAddRow rfl rfl rfl k_X5_canAddRow ⟨Nat.le_of_ble_eq_true rfl, Nat.le_of_ble_eq_true rfl⟩) hP hK (va_recv (q := (RX5, TX5, 12)) hK hP (ci := 5) (q0 := 0) rfl rfl) rfl hl.1 rfl (Nat.le_of_ble_eq_true rfl) dX5_addAll_83 ⟨Nat.le_of_ble_eq_true rfl, Nat.le_of_ble_eq_true rfl⟩ ?_
          refine kx_if_eqb (tgt := 128) hx hb dX5_addAll_86 (by decide) (fun c_86_46 => ?_) (fun c_86_47 => ?_)
          · refine lv_iload_n hx hb dX5_addAll_128 rfl (lv_at hl 1 rfl) ?_
            have e_48 : (nI ik : Int32) = (if tAll tx pa nl = 0 then nI (adN z ((finP tx pa nl).2.2.2) ((finP tx pa nl).1 + 1)) else nI 0) := by first | (rw [if_pos hT, show (finP tx pa nl).1 + 1 = ik by omega, hinv66]) | (rw [if_pos hT, adN_stop hinv66 (by omega) (by assumption)]) | simp [tAll, c_8_1, c_16_12, c_24_23, hT, c_71_38, Nat.not_lt.mpr c_71_38, c_86_46]
            have ec_z_49 : ((adZ z ((finP tx pa nl).2.2.2) ik) : ZZ) = (if tAll tx pa nl = 0 then adZ z ((finP tx pa nl).2.2.2) (adN z ((finP tx pa nl).2.2.2) ((finP tx pa nl).1 + 1)) else z) := by first | (rw [if_pos hT, show (finP tx pa nl).1 + 1 = ik by omega, hinv66]) | (rw [if_pos hT, adN_stop hinv66 (by omega) (by assumption)]) | simp [tAll, c_8_1, c_16_12, c_24_23, hT, c_71_38, Nat.not_lt.mpr c_71_38, c_86_46]
            have ec_st_50 : ((nI (saveN ns)) : Int32) = (nI (if tAll tx pa nl = 0 then saveN ns else ns)) := by first | rfl | omega | (simp [tAll, Int32.not_lt, Int32.not_le, c_8_1, c_16_12, c_24_23, hT, c_71_38, Nat.not_lt.mpr c_71_38, c_86_46]; done) | (simp [tAll, Int32.not_lt, Int32.not_le, c_8_1, c_16_12, c_24_23, hT, c_71_38, Nat.not_lt.mpr c_71_38, c_86_46]; omega) | (revert c_8_1 c_16_12 c_24_23 hT c_71_38 c_86_46; simp +contextual [tAll, Int32.not_lt, Int32.not_le]; done) | (revert c_8_1 c_16_12 c_24_23 hT c_71_38 c_86_46; simp +contextual [tAll, Int32.not_lt, Int32.not_le]; omega) | (subst c_8_1; simp [tAll, Int32.not_lt, Int32.not_le, c_16_12, c_24_23, hT, c_71_38, Nat.not_lt.mpr c_71_38, c_86_46]; done)
            have ec_zh_51 : ((saveH z zh ns) : ZZ) = (if tAll tx pa nl = 0 then saveH z zh ns else zh) := by first | rfl | omega | (simp [tAll, Int32.not_lt, Int32.not_le, c_8_1, c_16_12, c_24_23, hT, c_71_38, Nat.not_lt.mpr c_71_38, c_86_46]; done) | (simp [tAll, Int32.not_lt, Int32.not_le, c_8_1, c_16_12, c_24_23, hT, c_71_38, Nat.not_lt.mpr c_71_38, c_86_46]; omega) | (revert c_8_1 c_16_12 c_24_23 hT c_71_38 c_86_46; simp +contextual [tAll, Int32.not_lt, Int32.not_le]; done) | (revert c_8_1 c_16_12 c_24_23 hT c_71_38 c_86_46; simp +contextual [tAll, Int32.not_lt, Int32.not_le]; omega) | (subst c_8_1; simp [tAll, Int32.not_lt, Int32.not_le, c_16_12, c_24_23, hT, c_71_38, Nat.not_lt.mpr c_71_38, c_86_46]; done)
            have ec_le_52 : ((nI 0) : Int32) = (nI (if tAll tx pa nl = 0 then 0 else nl)) := by first | rfl | omega | (simp [tAll, Int32.not_lt, Int32.not_le, c_8_1, c_16_12, c_24_23, hT, c_71_38, Nat.not_lt.mpr c_71_38, c_86_46]; done) | (simp [tAll, Int32.not_lt, Int32.not_le, c_8_1, c_16_12, c_24_23, hT, c_71_38, Nat.not_lt.mpr c_71_38, c_86_46]; omega) | (revert c_8_1 c_16_12 c_24_23 hT c_71_38 c_86_46; simp +contextual [tAll, Int32.not_lt, Int32.not_le]; done) | (revert c_8_1 c_16_12 c_24_23 hT c_71_38 c_86_46; simp +contextual [tAll, Int32.not_lt, Int32.not_le]; omega) | (subst c_8_1; simp [tAll, Int32.not_lt, Int32.not_le, c_16_12, c_24_23, hT, c_71_38, Nat.not_lt.mpr c_71_38, c_86_46]; done)
            have ec_th_53 : ((nI 0) : Int32) = (nI (tAll tx pa nl)) := by first | rfl | omega | (simp [tAll, Int32.not_lt, Int32.not_le, c_8_1, c_16_12, c_24_23, hT, c_71_38, Nat.not_lt.mpr c_71_38, c_86_46]; done) | (simp [tAll, Int32.not_lt, Int32.not_le, c_8_1, c_16_12, c_24_23, hT, c_71_38, Nat.not_lt.mpr c_71_38, c_86_46]; omega) | (revert c_8_1 c_16_12 c_24_23 hT c_71_38 c_86_46; simp +contextual [tAll, Int32.not_lt, Int32.not_le]; done) | (revert c_8_1 c_16_12 c_24_23 hT c_71_38 c_86_46; simp +contextual [tAll, Int32.not_lt, Int32.not_le]; omega) | (subst c_8_1; simp [tAll, Int32.not_lt, Int32.not_le, c_16_12, c_24_23, hT, c_71_38, Nat.not_lt.mpr c_71_38, c_86_46]; done)
            have ew_54 : (MW a cI (adZ z ((finP tx pa nl).2.2.2) ik) (nI (saveN ns)) (saveH z zh ns) (nI 0) tx (nI 0) ((finP tx pa nl).2.2.2) (nI ((finP tx pa nl).1)) ((finP tx pa nl).2.2.1) (nI ((finP tx pa nl).2.1)) wy za : va_W) = (MW a cI (if tAll tx pa nl = 0 then adZ z ((finP tx pa nl).2.2.2) (adN z ((finP tx pa nl).2.2.2) ((finP tx pa nl).1 + 1)) else z) (nI (if tAll tx pa nl = 0 then saveN ns else ns)) (if tAll tx pa nl = 0 then saveH z zh ns else zh) (nI (if tAll tx pa nl = 0 then 0 else nl)) tx (nI (tAll tx pa nl)) ((finP tx pa nl).2.2.2) (nI ((finP tx pa nl).1)) ((finP tx pa nl).2.2.1) (nI ((finP tx pa nl).2.1)) wy za) := mw_c ec_z_49 ec_st_50 ec_zh_51 ec_le_52 rfl ec_th_53 rfl rfl rfl rfl rfl rfl
            rw [ew_54] at hP hD
            subst hw0
            exact kq_iret hx hb hrt hlocks e_48 hP hD hS dX5_addAll_129
          · have hc9 := c_86_47
            refine lv_aload_n hx hb dX5_addAll_89 rfl (lv_at hl 0 rfl) ?_
            refine lv_aload_n hx hb dX5_addAll_90 rfl (lv_at hl 0 rfl) ?_
            refine va_get (D := D) (ci := 5) (v := .ref (a 4)) (C := RX5) (T := TX5) (N := 12) hx hb hts iX5_addAll_5 hown hK hP 0 rfl rfl 6 (by decide) (hts (.fieldLink RX5 19 "HallSightsModel" "parts" "[I") (List.mem_of_getElem? (i := 6) rfl)) (fun _ h9 => h9) rfl dX5_addAll_91 ?_
            refine lv_iconst (v := nI 3) hx hb dX5_addAll_94 (by decide) ?_
            refine lv_iload_n hx hb dX5_addAll_95 rfl (lv_at hl 1 rfl) ?_
            refine kx_imul hx hb dX5_addAll_96 ?_
            refine kx_iald hx hb hK hP 4 0 rfl rfl (by omega) (by decide) dX5_addAll_97 ?_
            refine lv_aload_n hx hb dX5_addAll_98 rfl (lv_at hl 0 rfl) ?_
            refine va_get (D := D) (ci := 5) (v := .ref (a 4)) (C := RX5) (T := TX5) (N := 12) hx hb hts iX5_addAll_5 hown hK hP 0 rfl rfl 6 (by decide) (hts (.fieldLink RX5 19 "HallSightsModel" "parts" "[I") (List.mem_of_getElem? (i := 6) rfl)) (fun _ h9 => h9) rfl dX5_addAll_99 ?_
            refine lv_iconst (v := nI 3) hx hb dX5_addAll_102 (by decide) ?_
            refine lv_iload_n hx hb dX5_addAll_103 rfl (lv_at hl 1 rfl) ?_
            refine kx_imul hx hb dX5_addAll_104 ?_
            refine lv_iconst (v := nI 1) hx hb dX5_addAll_105 (by decide) ?_
            refine kx_iadd hx hb dX5_addAll_106 ?_
            refine kx_iald hx hb hK hP 4 0 rfl rfl (by omega) (by decide) dX5_addAll_107 ?_
            refine lv_aload_n hx hb dX5_addAll_108 rfl (lv_at hl 0 rfl) ?_
            refine va_get (D := D) (ci := 5) (v := .ref (a 4)) (C := RX5) (T := TX5) (N := 12) hx hb hts iX5_addAll_5 hown hK hP 0 rfl rfl 6 (by decide) (hts (.fieldLink RX5 19 "HallSightsModel" "parts" "[I") (List.mem_of_getElem? (i := 6) rfl)) (fun _ h9 => h9) rfl dX5_addAll_109 ?_
            refine lv_iconst (v := nI 3) hx hb dX5_addAll_112 (by decide) ?_
            refine lv_iload_n hx hb dX5_addAll_113 rfl (lv_at hl 1 rfl) ?_
            refine kx_imul hx hb dX5_addAll_114 ?_
            refine lv_iconst (v := nI 2) hx hb dX5_addAll_115 (by decide) ?_
            refine kx_iadd hx hb dX5_addAll_116 ?_
            refine kx_iald hx hb hK hP 4 0 rfl rfl (by omega) (by decide) dX5_addAll_117 ?_
            refine kw_V (As := [.int (((finP tx pa nl).2.2.2) (3 * ik)), .int (((finP tx pa nl).2.2.2) ((3 * ik) + 1)), .int (((finP tx pa nl).2.2.2) ((3 * ik) + 2))]) (rest := []) (C := RX5) (own := RX5) ⟨hx, hb, hml, hown, hts⟩ (c_X5_addsRow l D cI cC cH cL a (adZ z ((finP tx pa nl).2.2.2) ik) (saveH z zh ns) tx ((finP tx pa nl).2.2.2) wy (nI (saveN ns)) (nI 0) (nI 0) (nI ((finP tx pa nl).1)) ((finP tx pa nl).2.2.1) (nI ((finP tx pa nl).2.1)) za (((finP tx pa nl).2.2.2) (3 * ik)) (((finP tx pa nl).2.2.2) ((3 * ik) + 1)) (((finP tx pa nl).2.2.2) ((3 * ik) + 2)) (by exact hwk) (by exact canAdd_lt hc9)) (cwV 3 hts gX5_addAll_X5_addsRow rfl rfl rfl k_X5_addsRow ⟨Nat.le_of_ble_eq_true rfl, Nat.le_of_ble_eq_true rfl⟩) hP hD hK hS [0, 1, 2, 3, 4, 5] [] rfl rfl (wr := []) rfl (by decide) (by decide) (by decide) (va_recv (q := (RX5, TX5, 12)) hK hP (ci := 5) (q0 := 0) rfl rfl) rfl hl.1 rfl (Nat.le_of_ble_eq_true rfl) dX5_addAll_118 ⟨Nat.le_of_ble_eq_true rfl, Nat.le_of_ble_eq_true rfl⟩ (fun H locs hP hD hS => ?_)
            have hP : va_P D vwCl (MW a cI (insZ (adZ z ((finP tx pa nl).2.2.2) ik) (((finP tx pa nl).2.2.2) (3 * ik)) (((finP tx pa nl).2.2.2) ((3 * ik) + 1)) (((finP tx pa nl).2.2.2) ((3 * ik) + 2))) (nI (saveN ns)) (saveH z zh ns) (nI 0) tx (nI 0) ((finP tx pa nl).2.2.2) (nI ((finP tx pa nl).1)) ((finP tx pa nl).2.2.1) (nI ((finP tx pa nl).2.1)) wy za) H := hP
            have hD : va_D (kA w0) (MW a cI (insZ (adZ z ((finP tx pa nl).2.2.2) ik) (((finP tx pa nl).2.2.2) (3 * ik)) (((finP tx pa nl).2.2.2) ((3 * ik) + 1)) (((finP tx pa nl).2.2.2) ((3 * ik) + 2))) (nI (saveN ns)) (saveH z zh ns) (nI 0) tx (nI 0) ((finP tx pa nl).2.2.2) (nI ((finP tx pa nl).1)) ((finP tx pa nl).2.2.1) (nI ((finP tx pa nl).2.1)) wy za) := hD
            refine lv_istore_n (lv' := [(3, .int (nI (insAt (adZ z ((finP tx pa nl).2.2.2) ik) (((finP tx pa nl).2.2.2) (3 * ik)) (nR (adZ z ((finP tx pa nl).2.2.2) ik))))), (0, .ref (a 0)), (2, .int (nI ik))]) hx hb dX5_addAll_121 rfl hl (by decide) rfl (fun ls hl => ?_)
            refine lv_iinc (v := nI (ik + 1)) (lv' := [(2, .int (nI (ik + 1))), (3, .int (nI (insAt (adZ z ((finP tx pa nl).2.2.2) ik) (((finP tx pa nl).2.2.2) (3 * ik)) (nR (adZ z ((finP tx pa nl).2.2.2) ik))))), (0, .ref (a 0))]) hx hb dX5_addAll_122 hl (k := 2) rfl (kx_inc 1) (by decide) rfl (fun ls hl => ?_)
            refine lv_goto (tgt := 66) hx hb dX5_addAll_125 (by decide) ?_
            have e66_55 : (ik + 1 : Nat) = ((ik + 1)) := by first | rfl | omega | (simp [tAll, Int32.not_lt, Int32.not_le, c_8_1, c_16_12, c_24_23, hT, c_71_38, Nat.not_lt.mpr c_71_38, c_86_47]; done) | (simp [tAll, Int32.not_lt, Int32.not_le, c_8_1, c_16_12, c_24_23, hT, c_71_38, Nat.not_lt.mpr c_71_38, c_86_47]; omega) | (revert c_8_1 c_16_12 c_24_23 hT c_71_38 c_86_47; simp +contextual [tAll, Int32.not_lt, Int32.not_le]; done) | (revert c_8_1 c_16_12 c_24_23 hT c_71_38 c_86_47; simp +contextual [tAll, Int32.not_lt, Int32.not_le]; omega) | (subst c_8_1; simp [tAll, Int32.not_lt, Int32.not_le, c_16_12, c_24_23, hT, c_71_38, Nat.not_lt.mpr c_71_38, c_86_47]; done)
            have hl66_56 : lv_has ls 4 [(0, .ref (a 0)), (2, .int (nI (ik + 1)))] := lv_eqv (l1 := [(0, .ref (a 0)), (2, .int (nI (ik + 1)))]) (lv_sub hl [2, 0] rfl) (lv_ce rfl (lv_ce (congrArg (fun x => Value.int (nI x)) e66_55) rfl))
            have ec_z_57 : ((insZ (adZ z ((finP tx pa nl).2.2.2) ik) (((finP tx pa nl).2.2.2) (3 * ik)) (((finP tx pa nl).2.2.2) ((3 * ik) + 1)) (((finP tx pa nl).2.2.2) ((3 * ik) + 2))) : ZZ) = (adZ z ((finP tx pa nl).2.2.2) (ik + 1)) := by rfl
            have ew_58 : (MW a cI (insZ (adZ z ((finP tx pa nl).2.2.2) ik) (((finP tx pa nl).2.2.2) (3 * ik)) (((finP tx pa nl).2.2.2) ((3 * ik) + 1)) (((finP tx pa nl).2.2.2) ((3 * ik) + 2))) (nI (saveN ns)) (saveH z zh ns) (nI 0) tx (nI 0) ((finP tx pa nl).2.2.2) (nI ((finP tx pa nl).1)) ((finP tx pa nl).2.2.1) (nI ((finP tx pa nl).2.1)) wy za : va_W) = (MW a cI (adZ z ((finP tx pa nl).2.2.2) (ik + 1)) (nI (saveN ns)) (saveH z zh ns) (nI 0) tx (nI 0) ((finP tx pa nl).2.2.2) (nI ((finP tx pa nl).1)) ((finP tx pa nl).2.2.1) (nI ((finP tx pa nl).2.1)) wy za) := mw_c ec_z_57 rfl rfl rfl rfl rfl rfl rfl rfl rfl rfl rfl
            rw [ew_58] at hP hD
            exact ih66 _ _ _ (by omega) ⟨⟨hP, hD, hS⟩, ⟨hl66_56, by rw [adN_s, if_pos ⟨hinv66, hc9⟩]⟩⟩
set_option maxRecDepth 20000 in
theorem iX5_digest_5 : ∀ w ∈ wsX50, w ∈ wsX5_digest := by decide +kernel
set_option maxHeartbeats 4000000 in
set_option maxRecDepth 100000 in
theorem c_X5_digest (l : Launch) (D : va_G) (cI cC cH cL : ClassId) (a : Nat → Nat) (z zh tx pa wy : ZZ) (ns nl : Nat) (th rd nu pt : Int32) (za : Int64)  (hw : WF z) (hd : WD z) (hl : nl ≤ 60) : Met l yX5_digest wsX5_digest ({ frames := 10, cells := 0, slots := 0, locals := 234 }) (kw [.ref (a 0)] D (MW a cI z (nI ns) zh (nI nl) tx th pa rd nu pt wy za) (kT cI cC cH cL)) (kq D (MW a cI z (nI ns) zh (nI nl) tx th pa rd nu pt wy za) (MW a cI z (nI ns) zh (nI nl) tx (nI 0) pa rd nu pt (wyRow z 3 (wyD z (nR z) wy)) (digI z wy tx ns nl)) (.returned (some (.long (digI z wy tx ns nl))))) 0 0 (kA (MW a cI z (nI ns) zh (nI nl) tx th pa rd nu pt wy za)) := by
  refine Met.ofW (cc := cX5_digest) (maxL := 2) (ret := (some .long)) (by decide) rfl ?_
  intro p e s m args below meth c s₁ B hml hv
  obtain ⟨rfl, hP, hK, hD0⟩ := hv
  have hx := B.exec
  have hb := B.bytes
  have hrt := B.returns
  have hts := atoms_spec (ws := wsX5_digest) B.pre
  have hown : s.vm.findClass RX5 = some m.cls := findClass_of_methodNamed B.named
  have hlocks := B.notSynchronized
  have hl := lv_entry ([.ref (a 0)]) (n := 2) (Nat.le_of_ble_eq_true rfl)
  rw [lg_entry_eq]
  generalize (lg_sl ([.ref (a 0)]) ++ List.replicate (2 - (lg_sl ([.ref (a 0)])).length) Slot.unset).toArray = ls at hl ⊢
  have hl : lv_has ls 2 [(0, .ref (a 0))] := hl
  have hD := kA_self hD0
  obtain ⟨w0, hw0⟩ : ∃ w : va_W, w = MW a cI z (nI ns) zh (nI nl) tx th pa rd nu pt wy za := ⟨_, rfl⟩
  have hD : va_D (kA w0) (MW a cI z (nI ns) zh (nI nl) tx th pa rd nu pt wy za) := by rw [hw0]; exact hD
  have hS : va_S (kA w0) s.heap s.heap [] := va_S.rf
  rw [show kA (MW a cI z (nI ns) zh (nI nl) tx th pa rd nu pt wy za) = kA w0 from by rw [hw0], show kq D (MW a cI z (nI ns) zh (nI nl) tx th pa rd nu pt wy za) = kq D w0 from by rw [hw0]]
  have hP : va_P D vwCl (MW a cI z (nI ns) zh (nI nl) tx th pa rd nu pt wy za) s.heap := hP
  have hR10 := wf_R10 hw
  have hC4 := wf_C4 hw
  refine lv_aload_n hx hb dX5_digest_0 rfl (lv_at hl 0 rfl) ?_
  refine lv_iconst (v := nI 0) hx hb dX5_digest_1 (by decide) ?_
  refine va_put (D := D) (ci := 5) (v := .int (nI 0)) (ty := .int) (C := RX5) (T := TX5) (N := 12) hx hb hts iX5_digest_5 tyX5 tyX5_ok nmX5 hown hK hP hD hS 0 rfl rfl 5 (by decide) (hts (.fieldLink RX5 25 "HallSightsModel" "thrown" "I") (List.mem_of_getElem? (i := 1) rfl)) (fun _ h9 => h9) rfl (by decide +kernel) rfl rfl (Nat.le_of_ble_eq_true rfl) dX5_digest_2 (fun H locs hP hD hS => ?_)
  have hP : va_P D vwCl (MW a cI z (nI ns) zh (nI nl) tx (nI 0) pa rd nu pt wy za) H := hP
  have hD : va_D (kA w0) (MW a cI z (nI ns) zh (nI nl) tx (nI 0) pa rd nu pt wy za) := hD
  refine lv_aload_n hx hb dX5_digest_5 rfl (lv_at hl 0 rfl) ?_
  refine lv_ldc2 (v := 2621) hx hb hown (hts (.constantLong RX5 229 (2621)) (List.mem_of_getElem? (i := 2) rfl)) dX5_digest_6 ?_
  refine va_put (D := D) (ci := 5) (v := .long 2621) (ty := .long) (C := RX5) (T := TX5) (N := 12) hx hb hts iX5_digest_5 tyX5 tyX5_ok nmX5 hown hK hP hD hS 0 rfl rfl 11 (by decide) (hts (.fieldLink RX5 221 "HallSightsModel" "hash" "J") (List.mem_of_getElem? (i := 3) rfl)) (fun _ h9 => h9) rfl (by decide +kernel) rfl rfl (Nat.le_of_ble_eq_true rfl) dX5_digest_9 (fun H locs hP hD hS => ?_)
  have hP : va_P D vwCl (MW a cI z (nI ns) zh (nI nl) tx (nI 0) pa rd nu pt wy 2621) H := hP
  have hD : va_D (kA w0) (MW a cI z (nI ns) zh (nI nl) tx (nI 0) pa rd nu pt wy 2621) := hD
  refine lv_iconst (v := nI 0) hx hb dX5_digest_12 (by decide) ?_
  refine lv_istore_n (lv' := [(1, .int (nI 0)), (0, .ref (a 0))]) hx hb dX5_digest_13 rfl hl (by decide) rfl (fun ls hl => ?_)
  have ec_za_0 : (2621 : Int64) = (dgA z ns 0 2621) := by exact (dgA_0 _ _ _).symm
  have ew_1 : (MW a cI z (nI ns) zh (nI nl) tx (nI 0) pa rd nu pt wy 2621 : va_W) = (MW a cI z (nI ns) zh (nI nl) tx (nI 0) pa rd nu pt wy (dgA z ns 0 2621)) := mw_c rfl rfl rfl rfl rfl rfl rfl rfl rfl rfl rfl ec_za_0
  rw [ew_1] at hP hD
  refine kx_upW (fun k H locs ls => (va_P D vwCl (MW a cI z (nI ns) zh (nI nl) tx (nI 0) pa rd nu pt wy (dgA z ns k 2621)) H ∧ va_D (kA w0) (MW a cI z (nI ns) zh (nI nl) tx (nI 0) pa rd nu pt wy (dgA z ns k 2621)) ∧ va_S (kA w0) s.heap H locs) ∧ lv_has ls 2 [(0, .ref (a 0)), (1, .int (nI k))]) (0) (9) (by omega) _ _ ls ⟨⟨hP, hD, hS⟩, (lv_sub hl [1, 0] rfl)⟩ ?_
  clear hP hD hS
  intro ik H locs ls hikl hikh hp ih14
  obtain ⟨⟨hP, hD, hS⟩, hp⟩ := hp
  have hl := hp
  refine lv_iload_n hx hb dX5_digest_14 rfl (lv_at hl 1 rfl) ?_
  refine lv_bipush (v := nI 9) hx hb dX5_digest_15 (by decide) ?_
  refine kx_icmp_ge (tgt := 36) hx hb (by omega) (by omega) dX5_digest_17 (by decide) (fun c_17_2 => ?_) (fun c_17_3 => ?_)
  · have hq4 : 9 = ik := by omega
    subst hq4
    refine lv_iconst (v := nI 0) hx hb dX5_digest_36 (by decide) ?_
    refine lv_istore_n (lv' := [(1, .int (nI 0)), (0, .ref (a 0))]) hx hb dX5_digest_37 rfl hl (by decide) rfl (fun ls hl => ?_)
    have ec_za_5 : ((dgA z ns 9 2621) : Int64) = (dgB z 0 (dgA z ns 9 2621)) := by exact (dgB_0 _ _).symm
    have ew_6 : (MW a cI z (nI ns) zh (nI nl) tx (nI 0) pa rd nu pt wy (dgA z ns 9 2621) : va_W) = (MW a cI z (nI ns) zh (nI nl) tx (nI 0) pa rd nu pt wy (dgB z 0 (dgA z ns 9 2621))) := mw_c rfl rfl rfl rfl rfl rfl rfl rfl rfl rfl rfl ec_za_5
    rw [ew_6] at hP hD
    refine kx_upW (fun k H locs ls => (va_P D vwCl (MW a cI z (nI ns) zh (nI nl) tx (nI 0) pa rd nu pt wy (dgB z k (dgA z ns 9 2621))) H ∧ va_D (kA w0) (MW a cI z (nI ns) zh (nI nl) tx (nI 0) pa rd nu pt wy (dgB z k (dgA z ns 9 2621))) ∧ va_S (kA w0) s.heap H locs) ∧ lv_has ls 2 [(0, .ref (a 0)), (1, .int (nI k))]) (0) (3) (by omega) _ _ ls ⟨⟨hP, hD, hS⟩, (lv_sub hl [1, 0] rfl)⟩ ?_
    clear hP hD hS
    intro ik H locs ls hikl hikh hp ih38
    obtain ⟨⟨hP, hD, hS⟩, hp⟩ := hp
    have hl := hp
    refine lv_iload_n hx hb dX5_digest_38 rfl (lv_at hl 1 rfl) ?_
    refine lv_iconst (v := nI 3) hx hb dX5_digest_39 (by decide) ?_
    refine kx_icmp_ge (tgt := 60) hx hb (by omega) (by omega) dX5_digest_40 (by decide) (fun c_40_7 => ?_) (fun c_40_8 => ?_)
    · have hq9 : 3 = ik := by omega
      subst hq9
      refine lv_iconst (v := nI 0) hx hb dX5_digest_60 (by decide) ?_
      refine lv_istore_n (lv' := [(1, .int (nI 0)), (0, .ref (a 0))]) hx hb dX5_digest_61 rfl hl (by decide) rfl (fun ls hl => ?_)
      have ec_wy_10 : (wy : ZZ) = (wyD z 0 wy) := by first | rfl | omega | (simp [Int32.not_lt, Int32.not_le, c_17_2, Nat.not_lt.mpr c_17_2, c_40_7, Nat.not_lt.mpr c_40_7]; done) | (simp [Int32.not_lt, Int32.not_le, c_17_2, Nat.not_lt.mpr c_17_2, c_40_7, Nat.not_lt.mpr c_40_7]; omega) | (revert c_17_2 c_40_7; simp +contextual [Int32.not_lt, Int32.not_le]; done) | (revert c_17_2 c_40_7; simp +contextual [Int32.not_lt, Int32.not_le]; omega)
      have ec_za_11 : ((dgB z 3 (dgA z ns 9 2621)) : Int64) = (dgC z wy 0 (dg1 z ns)) := by exact (dgC_0 _ _ (dg1 z ns)).symm
      have ew_12 : (MW a cI z (nI ns) zh (nI nl) tx (nI 0) pa rd nu pt wy (dgB z 3 (dgA z ns 9 2621)) : va_W) = (MW a cI z (nI ns) zh (nI nl) tx (nI 0) pa rd nu pt (wyD z 0 wy) (dgC z wy 0 (dg1 z ns))) := mw_c rfl rfl rfl rfl rfl rfl rfl rfl rfl rfl ec_wy_10 ec_za_11
      rw [ew_12] at hP hD
      refine kx_upW (fun k H locs ls => (va_P D vwCl (MW a cI z (nI ns) zh (nI nl) tx (nI 0) pa rd nu pt (wyD z k wy) (dgC z wy k (dg1 z ns))) H ∧ va_D (kA w0) (MW a cI z (nI ns) zh (nI nl) tx (nI 0) pa rd nu pt (wyD z k wy) (dgC z wy k (dg1 z ns))) ∧ va_S (kA w0) s.heap H locs) ∧ lv_has ls 2 [(0, .ref (a 0)), (1, .int (nI k))]) (0) (nR z) (by omega) _ _ ls ⟨⟨hP, hD, hS⟩, (lv_sub hl [1, 0] rfl)⟩ ?_
      clear hP hD hS
      intro ik H locs ls hikl hikh hp ih62
      obtain ⟨⟨hP, hD, hS⟩, hp⟩ := hp
      have hl := hp
      refine lv_iload_n hx hb dX5_digest_62 rfl (lv_at hl 1 rfl) ?_
      refine lv_aload_n hx hb dX5_digest_63 rfl (lv_at hl 0 rfl) ?_
      refine va_get (D := D) (ci := 5) (v := .ref (a 1)) (C := RX5) (T := TX5) (N := 12) hx hb hts iX5_digest_5 hown hK hP 0 rfl rfl 0 (by decide) (hts (.fieldLink RX5 7 "HallSightsModel" "z" "[I") (List.mem_of_getElem? (i := 4) rfl)) (fun _ h9 => h9) rfl dX5_digest_64 ?_
      refine lv_iconst (v := nI 3) hx hb dX5_digest_67 (by decide) ?_
      refine kx_iald hx hb hK hP 1 0 rfl rfl (by omega) (by decide) dX5_digest_68 ?_
      refine kx_top (wf_R hw) ?_
      refine kx_icmp_ge (tgt := 83) hx hb (by omega) (by omega) dX5_digest_69 (by decide) (fun c_69_13 => ?_) (fun c_69_14 => ?_)
      · have hq15 : nR z = ik := by omega
        subst hq15
        refine lv_iconst (v := nI 0) hx hb dX5_digest_83 (by decide) ?_
        refine lv_istore_n (lv' := [(1, .int (nI 0)), (0, .ref (a 0))]) hx hb dX5_digest_84 rfl hl (by decide) rfl (fun ls hl => ?_)
        have ec_za_16 : ((dgC z wy (nR z) (dg1 z ns)) : Int64) = (dgD z 0 (dgC z wy (nR z) (dg1 z ns))) := by exact (dgD_0 _ _).symm
        have ew_17 : (MW a cI z (nI ns) zh (nI nl) tx (nI 0) pa rd nu pt (wyD z (nR z) wy) (dgC z wy (nR z) (dg1 z ns)) : va_W) = (MW a cI z (nI ns) zh (nI nl) tx (nI 0) pa rd nu pt (wyD z (nR z) wy) (dgD z 0 (dgC z wy (nR z) (dg1 z ns)))) := mw_c rfl rfl rfl rfl rfl rfl rfl rfl rfl rfl rfl ec_za_16
        rw [ew_17] at hP hD
        refine kx_upW (fun k H locs ls => (va_P D vwCl (MW a cI z (nI ns) zh (nI nl) tx (nI 0) pa rd nu pt (wyD z (nR z) wy) (dgD z k (dgC z wy (nR z) (dg1 z ns)))) H ∧ va_D (kA w0) (MW a cI z (nI ns) zh (nI nl) tx (nI 0) pa rd nu pt (wyD z (nR z) wy) (dgD z k (dgC z wy (nR z) (dg1 z ns)))) ∧ va_S (kA w0) s.heap H locs) ∧ lv_has ls 2 [(0, .ref (a 0)), (1, .int (nI k))]) (0) (4 * (nC z)) (by omega) _ _ ls ⟨⟨hP, hD, hS⟩, (lv_sub hl [1, 0] rfl)⟩ ?_
        clear hP hD hS
        intro ik H locs ls hikl hikh hp ih85
        obtain ⟨⟨hP, hD, hS⟩, hp⟩ := hp
        have hl := hp
        refine lv_iload_n hx hb dX5_digest_85 rfl (lv_at hl 1 rfl) ?_
        refine lv_iconst (v := nI 4) hx hb dX5_digest_86 (by decide) ?_
        refine lv_aload_n hx hb dX5_digest_87 rfl (lv_at hl 0 rfl) ?_
        refine va_get (D := D) (ci := 5) (v := .ref (a 1)) (C := RX5) (T := TX5) (N := 12) hx hb hts iX5_digest_5 hown hK hP 0 rfl rfl 0 (by decide) (hts (.fieldLink RX5 7 "HallSightsModel" "z" "[I") (List.mem_of_getElem? (i := 4) rfl)) (fun _ h9 => h9) rfl dX5_digest_88 ?_
        refine lv_iconst (v := nI 4) hx hb dX5_digest_91 (by decide) ?_
        refine kx_iald hx hb hK hP 1 0 rfl rfl (by omega) (by decide) dX5_digest_92 ?_
        refine kx_top (wf_C hw) ?_
        refine kx_imul hx hb dX5_digest_93 ?_
        refine kx_icmp_ge (tgt := 118) hx hb (by omega) (by omega) dX5_digest_94 (by decide) (fun c_94_18 => ?_) (fun c_94_19 => ?_)
        · have hq20 : 4 * (nC z) = ik := by omega
          subst hq20
          refine lv_iconst (v := nI 0) hx hb dX5_digest_118 (by decide) ?_
          refine lv_istore_n (lv' := [(1, .int (nI 0)), (0, .ref (a 0))]) hx hb dX5_digest_119 rfl hl (by decide) rfl (fun ls hl => ?_)
          have ec_wy_21 : ((wyD z (nR z) wy) : ZZ) = (wyRow z 0 (wyD z (nR z) wy)) := by first | rfl | omega | (simp [Int32.not_lt, Int32.not_le, c_17_2, Nat.not_lt.mpr c_17_2, c_40_7, Nat.not_lt.mpr c_40_7, c_69_13, Nat.not_lt.mpr c_69_13, c_94_18, Nat.not_lt.mpr c_94_18]; done) | (simp [Int32.not_lt, Int32.not_le, c_17_2, Nat.not_lt.mpr c_17_2, c_40_7, Nat.not_lt.mpr c_40_7, c_69_13, Nat.not_lt.mpr c_69_13, c_94_18, Nat.not_lt.mpr c_94_18]; omega) | (revert c_17_2 c_40_7 c_69_13 c_94_18; simp +contextual [Int32.not_lt, Int32.not_le]; done) | (revert c_17_2 c_40_7 c_69_13 c_94_18; simp +contextual [Int32.not_lt, Int32.not_le]; omega)
          have ec_za_22 : ((dgD z (4 * (nC z)) (dgC z wy (nR z) (dg1 z ns))) : Int64) = (dgE z (wyD z (nR z) wy) 0 (dg2 z wy ns)) := by exact (dgE_0 _ _ (dg2 z wy ns)).symm
          have ew_23 : (MW a cI z (nI ns) zh (nI nl) tx (nI 0) pa rd nu pt (wyD z (nR z) wy) (dgD z (4 * (nC z)) (dgC z wy (nR z) (dg1 z ns))) : va_W) = (MW a cI z (nI ns) zh (nI nl) tx (nI 0) pa rd nu pt (wyRow z 0 (wyD z (nR z) wy)) (dgE z (wyD z (nR z) wy) 0 (dg2 z wy ns))) := mw_c rfl rfl rfl rfl rfl rfl rfl rfl rfl rfl ec_wy_21 ec_za_22
          rw [ew_23] at hP hD
          refine kx_upW (fun k H locs ls => (va_P D vwCl (MW a cI z (nI ns) zh (nI nl) tx (nI 0) pa rd nu pt (wyRow z k (wyD z (nR z) wy)) (dgE z (wyD z (nR z) wy) k (dg2 z wy ns))) H ∧ va_D (kA w0) (MW a cI z (nI ns) zh (nI nl) tx (nI 0) pa rd nu pt (wyRow z k (wyD z (nR z) wy)) (dgE z (wyD z (nR z) wy) k (dg2 z wy ns))) ∧ va_S (kA w0) s.heap H locs) ∧ lv_has ls 2 [(0, .ref (a 0)), (1, .int (nI k))]) (0) (3) (by omega) _ _ ls ⟨⟨hP, hD, hS⟩, (lv_sub hl [1, 0] rfl)⟩ ?_
          clear hP hD hS
          intro ik H locs ls hikl hikh hp ih120
          obtain ⟨⟨hP, hD, hS⟩, hp⟩ := hp
          have hl := hp
          refine lv_iload_n hx hb dX5_digest_120 rfl (lv_at hl 1 rfl) ?_
          refine lv_iconst (v := nI 3) hx hb dX5_digest_121 (by decide) ?_
          refine kx_icmp_ge (tgt := 141) hx hb (by omega) (by omega) dX5_digest_122 (by decide) (fun c_122_24 => ?_) (fun c_122_25 => ?_)
          · have hq26 : 3 = ik := by omega
            subst hq26
            refine lv_aload_n hx hb dX5_digest_141 rfl (lv_at hl 0 rfl) ?_
            refine lv_aload_n hx hb dX5_digest_142 rfl (lv_at hl 0 rfl) ?_
            refine kr_V (As := []) (rest := [.ref (a 0)]) (C := RX5) (own := RX5) ⟨hx, hb, hml, hown, hts⟩ (c_X5_worstNow l D cI cC cH cL a z zh tx pa (wyRow z 3 (wyD z (nR z) wy)) (nI ns) (nI nl) (nI 0) rd nu pt (dgE z (wyD z (nR z) wy) 3 (dg2 z wy ns))  (by first | assumption | omega)) (cwV 0 hts gX5_digest_X5_worstNow rfl rfl rfl k_X5_worstNow ⟨Nat.le_of_ble_eq_true rfl, Nat.le_of_ble_eq_true rfl⟩) hP hK (va_recv (q := (RX5, TX5, 12)) hK hP (ci := 5) (q0 := 0) rfl rfl) rfl hl.1 rfl (Nat.le_of_ble_eq_true rfl) dX5_digest_143 ⟨Nat.le_of_ble_eq_true rfl, Nat.le_of_ble_eq_true rfl⟩ ?_
            refine lv_i2l hx hb dX5_digest_146 rfl ?_
            refine kw_V (As := [.long ((worstI z).toInt64)]) (rest := []) (C := RX5) (own := RX5) ⟨hx, hb, hml, hown, hts⟩ (c_X5_mix l D cI cC cH cL a z zh tx pa (wyRow z 3 (wyD z (nR z) wy)) (nI ns) (nI nl) (nI 0) rd nu pt (dgE z (wyD z (nR z) wy) 3 (dg2 z wy ns)) ((worstI z).toInt64) ) (cwV 1 hts gX5_digest_X5_mix rfl rfl rfl k_X5_mix ⟨Nat.le_of_ble_eq_true rfl, Nat.le_of_ble_eq_true rfl⟩) hP hD hK hS [0, 1, 2, 3, 4, 5] [] rfl rfl (wr := []) rfl (by decide) (by decide) (by decide) (va_recv (q := (RX5, TX5, 12)) hK hP (ci := 5) (q0 := 0) rfl rfl) rfl hl.1 rfl (Nat.le_of_ble_eq_true rfl) dX5_digest_147 ⟨Nat.le_of_ble_eq_true rfl, Nat.le_of_ble_eq_true rfl⟩ (fun H locs hP hD hS => ?_)
            have hP : va_P D vwCl (MW a cI z (nI ns) zh (nI nl) tx (nI 0) pa rd nu pt (wyRow z 3 (wyD z (nR z) wy)) (mixL (dgE z (wyD z (nR z) wy) 3 (dg2 z wy ns)) ((worstI z).toInt64))) H := hP
            have hD : va_D (kA w0) (MW a cI z (nI ns) zh (nI nl) tx (nI 0) pa rd nu pt (wyRow z 3 (wyD z (nR z) wy)) (mixL (dgE z (wyD z (nR z) wy) 3 (dg2 z wy ns)) ((worstI z).toInt64))) := hD
            refine lv_aload_n hx hb dX5_digest_150 rfl (lv_at hl 0 rfl) ?_
            refine lv_aload_n hx hb dX5_digest_151 rfl (lv_at hl 0 rfl) ?_
            refine kr_V (As := []) (rest := [.ref (a 0)]) (C := RX5) (own := RX5) ⟨hx, hb, hml, hown, hts⟩ (c_X5_share l D cI cC cH cL a z zh tx pa (wyRow z 3 (wyD z (nR z) wy)) (nI ns) (nI nl) (nI 0) rd nu pt (mixL (dgE z (wyD z (nR z) wy) 3 (dg2 z wy ns)) ((worstI z).toInt64))  (by first | assumption | omega)) (cwV 0 hts gX5_digest_X5_share rfl rfl rfl k_X5_share ⟨Nat.le_of_ble_eq_true rfl, Nat.le_of_ble_eq_true rfl⟩) hP hK (va_recv (q := (RX5, TX5, 12)) hK hP (ci := 5) (q0 := 0) rfl rfl) rfl hl.1 rfl (Nat.le_of_ble_eq_true rfl) dX5_digest_152 ⟨Nat.le_of_ble_eq_true rfl, Nat.le_of_ble_eq_true rfl⟩ ?_
            refine kr_S (As := [.double (shareD z)]) (rest := [.ref (a 0)]) (own := RX5) ⟨hx, hb, hml, hown, hts⟩ (c_Jxe99ae_doubleToLongBits_ccdee l D cI cC cH cL  (shareD z) ) (va_cwS 1 hts gX5_digest_Jxe99ae_doubleToLongBits_ccdee rfl rfl rfl k_Jxe99ae_doubleToLongBits_ccdeeS ⟨Nat.le_of_ble_eq_true rfl, Nat.le_of_ble_eq_true rfl⟩) (hP.sub (ws' := []) [] rfl) hK rfl hl.1 rfl (Nat.le_of_ble_eq_true rfl) dX5_digest_155 ⟨Nat.le_of_ble_eq_true rfl, Nat.le_of_ble_eq_true rfl⟩ ?_
            refine kw_V (As := [.long (d2lb (shareD z))]) (rest := []) (C := RX5) (own := RX5) ⟨hx, hb, hml, hown, hts⟩ (c_X5_mix l D cI cC cH cL a z zh tx pa (wyRow z 3 (wyD z (nR z) wy)) (nI ns) (nI nl) (nI 0) rd nu pt (mixL (dgE z (wyD z (nR z) wy) 3 (dg2 z wy ns)) ((worstI z).toInt64)) (d2lb (shareD z)) ) (cwV 1 hts gX5_digest_X5_mix rfl rfl rfl k_X5_mix ⟨Nat.le_of_ble_eq_true rfl, Nat.le_of_ble_eq_true rfl⟩) hP hD hK hS [0, 1, 2, 3, 4, 5] [] rfl rfl (wr := []) rfl (by decide) (by decide) (by decide) (va_recv (q := (RX5, TX5, 12)) hK hP (ci := 5) (q0 := 0) rfl rfl) rfl hl.1 rfl (Nat.le_of_ble_eq_true rfl) dX5_digest_158 ⟨Nat.le_of_ble_eq_true rfl, Nat.le_of_ble_eq_true rfl⟩ (fun H locs hP hD hS => ?_)
            have hP : va_P D vwCl (MW a cI z (nI ns) zh (nI nl) tx (nI 0) pa rd nu pt (wyRow z 3 (wyD z (nR z) wy)) (mixL (mixL (dgE z (wyD z (nR z) wy) 3 (dg2 z wy ns)) ((worstI z).toInt64)) (d2lb (shareD z)))) H := hP
            have hD : va_D (kA w0) (MW a cI z (nI ns) zh (nI nl) tx (nI 0) pa rd nu pt (wyRow z 3 (wyD z (nR z) wy)) (mixL (mixL (dgE z (wyD z (nR z) wy) 3 (dg2 z wy ns)) ((worstI z).toInt64)) (d2lb (shareD z)))) := hD
            refine lv_aload_n hx hb dX5_digest_161 rfl (lv_at hl 0 rfl) ?_
            refine lv_aload_n hx hb dX5_digest_162 rfl (lv_at hl 0 rfl) ?_
            refine va_get (D := D) (ci := 5) (v := .int (nI nl)) (C := RX5) (T := TX5) (N := 12) hx hb hts iX5_digest_5 hown hK hP 0 rfl rfl 3 (by decide) (hts (.fieldLink RX5 131 "HallSightsModel" "length" "I") (List.mem_of_getElem? (i := 5) rfl)) (fun _ h9 => h9) rfl dX5_digest_163 ?_
            refine lv_i2l hx hb dX5_digest_166 rfl ?_
            refine kw_V (As := [.long ((nI nl).toInt64)]) (rest := []) (C := RX5) (own := RX5) ⟨hx, hb, hml, hown, hts⟩ (c_X5_mix l D cI cC cH cL a z zh tx pa (wyRow z 3 (wyD z (nR z) wy)) (nI ns) (nI nl) (nI 0) rd nu pt (mixL (mixL (dgE z (wyD z (nR z) wy) 3 (dg2 z wy ns)) ((worstI z).toInt64)) (d2lb (shareD z))) ((nI nl).toInt64) ) (cwV 1 hts gX5_digest_X5_mix rfl rfl rfl k_X5_mix ⟨Nat.le_of_ble_eq_true rfl, Nat.le_of_ble_eq_true rfl⟩) hP hD hK hS [0, 1, 2, 3, 4, 5] [] rfl rfl (wr := []) rfl (by decide) (by decide) (by decide) (va_recv (q := (RX5, TX5, 12)) hK hP (ci := 5) (q0 := 0) rfl rfl) rfl hl.1 rfl (Nat.le_of_ble_eq_true rfl) dX5_digest_167 ⟨Nat.le_of_ble_eq_true rfl, Nat.le_of_ble_eq_true rfl⟩ (fun H locs hP hD hS => ?_)
            have hP : va_P D vwCl (MW a cI z (nI ns) zh (nI nl) tx (nI 0) pa rd nu pt (wyRow z 3 (wyD z (nR z) wy)) (mixL (mixL (mixL (dgE z (wyD z (nR z) wy) 3 (dg2 z wy ns)) ((worstI z).toInt64)) (d2lb (shareD z))) ((nI nl).toInt64))) H := hP
            have hD : va_D (kA w0) (MW a cI z (nI ns) zh (nI nl) tx (nI 0) pa rd nu pt (wyRow z 3 (wyD z (nR z) wy)) (mixL (mixL (mixL (dgE z (wyD z (nR z) wy) 3 (dg2 z wy ns)) ((worstI z).toInt64)) (d2lb (shareD z))) ((nI nl).toInt64))) := hD
            refine lv_iconst (v := nI 0) hx hb dX5_digest_170 (by decide) ?_
            refine lv_istore_n (lv' := [(1, .int (nI 0)), (0, .ref (a 0))]) hx hb dX5_digest_171 rfl hl (by decide) rfl (fun ls hl => ?_)
            have ec_za_27 : ((mixL (mixL (mixL (dgE z (wyD z (nR z) wy) 3 (dg2 z wy ns)) ((worstI z).toInt64)) (d2lb (shareD z))) ((nI nl).toInt64)) : Int64) = (dgG tx 0 (dg3 z wy ns nl)) := by exact (dgG_0 _ (dg3 z wy ns nl)).symm
            have ew_28 : (MW a cI z (nI ns) zh (nI nl) tx (nI 0) pa rd nu pt (wyRow z 3 (wyD z (nR z) wy)) (mixL (mixL (mixL (dgE z (wyD z (nR z) wy) 3 (dg2 z wy ns)) ((worstI z).toInt64)) (d2lb (shareD z))) ((nI nl).toInt64)) : va_W) = (MW a cI z (nI ns) zh (nI nl) tx (nI 0) pa rd nu pt (wyRow z 3 (wyD z (nR z) wy)) (dgG tx 0 (dg3 z wy ns nl))) := mw_c rfl rfl rfl rfl rfl rfl rfl rfl rfl rfl rfl ec_za_27
            rw [ew_28] at hP hD
            refine kx_upW (fun k H locs ls => (va_P D vwCl (MW a cI z (nI ns) zh (nI nl) tx (nI 0) pa rd nu pt (wyRow z 3 (wyD z (nR z) wy)) (dgG tx k (dg3 z wy ns nl))) H ∧ va_D (kA w0) (MW a cI z (nI ns) zh (nI nl) tx (nI 0) pa rd nu pt (wyRow z 3 (wyD z (nR z) wy)) (dgG tx k (dg3 z wy ns nl))) ∧ va_S (kA w0) s.heap H locs) ∧ lv_has ls 2 [(0, .ref (a 0)), (1, .int (nI k))]) (0) (nl) (by omega) _ _ ls ⟨⟨hP, hD, hS⟩, (lv_sub hl [1, 0] rfl)⟩ ?_
            clear hP hD hS
            intro ik H locs ls hikl hikh hp ih172
            obtain ⟨⟨hP, hD, hS⟩, hp⟩ := hp
            have hl := hp
            refine lv_iload_n hx hb dX5_digest_172 rfl (lv_at hl 1 rfl) ?_
            refine lv_aload_n hx hb dX5_digest_173 rfl (lv_at hl 0 rfl) ?_
            refine va_get (D := D) (ci := 5) (v := .int (nI nl)) (C := RX5) (T := TX5) (N := 12) hx hb hts iX5_digest_5 hown hK hP 0 rfl rfl 3 (by decide) (hts (.fieldLink RX5 131 "HallSightsModel" "length" "I") (List.mem_of_getElem? (i := 5) rfl)) (fun _ h9 => h9) rfl dX5_digest_174 ?_
            refine kx_icmp_ge (tgt := 197) hx hb (by omega) (by omega) dX5_digest_177 (by decide) (fun c_177_29 => ?_) (fun c_177_30 => ?_)
            · have hq31 : nl = ik := by omega
              subst hq31
              refine lv_aload_n hx hb dX5_digest_197 rfl (lv_at hl 0 rfl) ?_
              refine va_get (D := D) (ci := 5) (v := .long (dgG tx nl (dg3 z wy ns nl))) (C := RX5) (T := TX5) (N := 12) hx hb hts iX5_digest_5 hown hK hP 0 rfl rfl 11 (by decide) (hts (.fieldLink RX5 221 "HallSightsModel" "hash" "J") (List.mem_of_getElem? (i := 3) rfl)) (fun _ h9 => h9) rfl dX5_digest_198 ?_
              have e_32 : (dgG tx nl (dg3 z wy ns nl)) = (digI z wy tx ns nl) := by first | rfl | omega | (simp [Int32.not_lt, Int32.not_le, c_17_2, Nat.not_lt.mpr c_17_2, c_40_7, Nat.not_lt.mpr c_40_7, c_69_13, Nat.not_lt.mpr c_69_13, c_94_18, Nat.not_lt.mpr c_94_18, c_122_24, Nat.not_lt.mpr c_122_24, c_177_29, Nat.not_lt.mpr c_177_29]; done) | (simp [Int32.not_lt, Int32.not_le, c_17_2, Nat.not_lt.mpr c_17_2, c_40_7, Nat.not_lt.mpr c_40_7, c_69_13, Nat.not_lt.mpr c_69_13, c_94_18, Nat.not_lt.mpr c_94_18, c_122_24, Nat.not_lt.mpr c_122_24, c_177_29, Nat.not_lt.mpr c_177_29]; omega) | (revert c_17_2 c_40_7 c_69_13 c_94_18 c_122_24 c_177_29; simp +contextual [Int32.not_lt, Int32.not_le]; done) | (revert c_17_2 c_40_7 c_69_13 c_94_18 c_122_24 c_177_29; simp +contextual [Int32.not_lt, Int32.not_le]; omega)
              have ec_za_33 : ((dgG tx nl (dg3 z wy ns nl)) : Int64) = (digI z wy tx ns nl) := by first | rfl | omega | (simp [Int32.not_lt, Int32.not_le, c_17_2, Nat.not_lt.mpr c_17_2, c_40_7, Nat.not_lt.mpr c_40_7, c_69_13, Nat.not_lt.mpr c_69_13, c_94_18, Nat.not_lt.mpr c_94_18, c_122_24, Nat.not_lt.mpr c_122_24, c_177_29, Nat.not_lt.mpr c_177_29]; done) | (simp [Int32.not_lt, Int32.not_le, c_17_2, Nat.not_lt.mpr c_17_2, c_40_7, Nat.not_lt.mpr c_40_7, c_69_13, Nat.not_lt.mpr c_69_13, c_94_18, Nat.not_lt.mpr c_94_18, c_122_24, Nat.not_lt.mpr c_122_24, c_177_29, Nat.not_lt.mpr c_177_29]; omega) | (revert c_17_2 c_40_7 c_69_13 c_94_18 c_122_24 c_177_29; simp +contextual [Int32.not_lt, Int32.not_le]; done) | (revert c_17_2 c_40_7 c_69_13 c_94_18 c_122_24 c_177_29; simp +contextual [Int32.not_lt, Int32.not_le]; omega)
              have ew_34 : (MW a cI z (nI ns) zh (nI nl) tx (nI 0) pa rd nu pt (wyRow z 3 (wyD z (nR z) wy)) (dgG tx nl (dg3 z wy ns nl)) : va_W) = (MW a cI z (nI ns) zh (nI nl) tx (nI 0) pa rd nu pt (wyRow z 3 (wyD z (nR z) wy)) (digI z wy tx ns nl)) := mw_c rfl rfl rfl rfl rfl rfl rfl rfl rfl rfl rfl ec_za_33
              rw [ew_34] at hP hD
              subst hw0
              exact kq_lret hx hb hrt hlocks e_32 hP hD hS dX5_digest_201
            · refine lv_aload_n hx hb dX5_digest_180 rfl (lv_at hl 0 rfl) ?_
              refine lv_aload_n hx hb dX5_digest_181 rfl (lv_at hl 0 rfl) ?_
              refine va_get (D := D) (ci := 5) (v := .ref (a 3)) (C := RX5) (T := TX5) (N := 12) hx hb hts iX5_digest_5 hown hK hP 0 rfl rfl 4 (by decide) (hts (.fieldLink RX5 16 "HallSightsModel" "text" "[I") (List.mem_of_getElem? (i := 6) rfl)) (fun _ h9 => h9) rfl dX5_digest_182 ?_
              refine lv_iload_n hx hb dX5_digest_185 rfl (lv_at hl 1 rfl) ?_
              refine kx_iald hx hb hK hP 3 0 rfl rfl (by omega) (by decide) dX5_digest_186 ?_
              refine lv_i2l hx hb dX5_digest_187 rfl ?_
              refine kw_V (As := [.long ((tx ik).toInt64)]) (rest := []) (C := RX5) (own := RX5) ⟨hx, hb, hml, hown, hts⟩ (c_X5_mix l D cI cC cH cL a z zh tx pa (wyRow z 3 (wyD z (nR z) wy)) (nI ns) (nI nl) (nI 0) rd nu pt (dgG tx ik (dg3 z wy ns nl)) ((tx ik).toInt64) ) (cwV 1 hts gX5_digest_X5_mix rfl rfl rfl k_X5_mix ⟨Nat.le_of_ble_eq_true rfl, Nat.le_of_ble_eq_true rfl⟩) hP hD hK hS [0, 1, 2, 3, 4, 5] [] rfl rfl (wr := []) rfl (by decide) (by decide) (by decide) (va_recv (q := (RX5, TX5, 12)) hK hP (ci := 5) (q0 := 0) rfl rfl) rfl hl.1 rfl (Nat.le_of_ble_eq_true rfl) dX5_digest_188 ⟨Nat.le_of_ble_eq_true rfl, Nat.le_of_ble_eq_true rfl⟩ (fun H locs hP hD hS => ?_)
              have hP : va_P D vwCl (MW a cI z (nI ns) zh (nI nl) tx (nI 0) pa rd nu pt (wyRow z 3 (wyD z (nR z) wy)) (mixL (dgG tx ik (dg3 z wy ns nl)) ((tx ik).toInt64))) H := hP
              have hD : va_D (kA w0) (MW a cI z (nI ns) zh (nI nl) tx (nI 0) pa rd nu pt (wyRow z 3 (wyD z (nR z) wy)) (mixL (dgG tx ik (dg3 z wy ns nl)) ((tx ik).toInt64))) := hD
              refine lv_iinc (v := nI (ik + 1)) (lv' := [(1, .int (nI (ik + 1))), (0, .ref (a 0))]) hx hb dX5_digest_191 hl (k := 1) rfl (kx_inc 1) (by decide) rfl (fun ls hl => ?_)
              refine lv_goto (tgt := 172) hx hb dX5_digest_194 (by decide) ?_
              have e172_35 : (ik + 1 : Nat) = ((ik + 1)) := by first | rfl | omega | (simp [Int32.not_lt, Int32.not_le, c_17_2, Nat.not_lt.mpr c_17_2, c_40_7, Nat.not_lt.mpr c_40_7, c_69_13, Nat.not_lt.mpr c_69_13, c_94_18, Nat.not_lt.mpr c_94_18, c_122_24, Nat.not_lt.mpr c_122_24, c_177_30, Nat.not_le.mpr c_177_30]; done) | (simp [Int32.not_lt, Int32.not_le, c_17_2, Nat.not_lt.mpr c_17_2, c_40_7, Nat.not_lt.mpr c_40_7, c_69_13, Nat.not_lt.mpr c_69_13, c_94_18, Nat.not_lt.mpr c_94_18, c_122_24, Nat.not_lt.mpr c_122_24, c_177_30, Nat.not_le.mpr c_177_30]; omega) | (revert c_17_2 c_40_7 c_69_13 c_94_18 c_122_24 c_177_30; simp +contextual [Int32.not_lt, Int32.not_le]; done) | (revert c_17_2 c_40_7 c_69_13 c_94_18 c_122_24 c_177_30; simp +contextual [Int32.not_lt, Int32.not_le]; omega)
              have hl172_36 : lv_has ls 2 [(0, .ref (a 0)), (1, .int (nI (ik + 1)))] := lv_eqv (l1 := [(0, .ref (a 0)), (1, .int (nI (ik + 1)))]) (lv_sub hl [1, 0] rfl) (lv_ce rfl (lv_ce (congrArg (fun x => Value.int (nI x)) e172_35) rfl))
              have ec_za_37 : ((mixL (dgG tx ik (dg3 z wy ns nl)) ((tx ik).toInt64)) : Int64) = (dgG tx (ik + 1) (dg3 z wy ns nl)) := by exact (dgG_s _ _ _).symm
              have ew_38 : (MW a cI z (nI ns) zh (nI nl) tx (nI 0) pa rd nu pt (wyRow z 3 (wyD z (nR z) wy)) (mixL (dgG tx ik (dg3 z wy ns nl)) ((tx ik).toInt64)) : va_W) = (MW a cI z (nI ns) zh (nI nl) tx (nI 0) pa rd nu pt (wyRow z 3 (wyD z (nR z) wy)) (dgG tx (ik + 1) (dg3 z wy ns nl))) := mw_c rfl rfl rfl rfl rfl rfl rfl rfl rfl rfl rfl ec_za_37
              rw [ew_38] at hP hD
              exact ih172 _ _ _ (by omega) ⟨⟨hP, hD, hS⟩, hl172_36⟩
          · refine lv_aload_n hx hb dX5_digest_125 rfl (lv_at hl 0 rfl) ?_
            refine lv_aload_n hx hb dX5_digest_126 rfl (lv_at hl 0 rfl) ?_
            refine lv_iload_n hx hb dX5_digest_127 rfl (lv_at hl 1 rfl) ?_
            refine kw_V (As := [.int (nI ik)]) (rest := [.ref (a 0)]) (C := RX5) (own := RX5) ⟨hx, hb, hml, hown, hts⟩ (c_X5_bestAt l D cI cC cH cL a z zh tx pa (wyRow z ik (wyD z (nR z) wy)) (nI ns) (nI nl) (nI 0) rd nu pt (dgE z (wyD z (nR z) wy) ik (dg2 z wy ns)) (nI ik) (by first | assumption | omega)) (cwV 1 hts gX5_digest_X5_bestAt rfl rfl rfl k_X5_bestAt ⟨Nat.le_of_ble_eq_true rfl, Nat.le_of_ble_eq_true rfl⟩) hP hD hK hS [0, 1, 2, 3, 4, 5] [] rfl rfl (wr := []) rfl (by decide) (by decide) (by decide) (va_recv (q := (RX5, TX5, 12)) hK hP (ci := 5) (q0 := 0) rfl rfl) rfl hl.1 rfl (Nat.le_of_ble_eq_true rfl) dX5_digest_128 ⟨Nat.le_of_ble_eq_true rfl, Nat.le_of_ble_eq_true rfl⟩ (fun H locs hP hD hS => ?_)
            have hP : va_P D vwCl (MW a cI z (nI ns) zh (nI nl) tx (nI 0) pa rd nu pt (layF z (wyRow z ik (wyD z (nR z) wy))) (dgE z (wyD z (nR z) wy) ik (dg2 z wy ns))) H := hP
            have hD : va_D (kA w0) (MW a cI z (nI ns) zh (nI nl) tx (nI 0) pa rd nu pt (layF z (wyRow z ik (wyD z (nR z) wy))) (dgE z (wyD z (nR z) wy) ik (dg2 z wy ns))) := hD
            refine lv_i2l hx hb dX5_digest_131 rfl ?_
            refine kw_V (As := [.long ((bestI z (layF z (wyRow z ik (wyD z (nR z) wy))) (nI ik)).toInt64)]) (rest := []) (C := RX5) (own := RX5) ⟨hx, hb, hml, hown, hts⟩ (c_X5_mix l D cI cC cH cL a z zh tx pa (layF z (wyRow z ik (wyD z (nR z) wy))) (nI ns) (nI nl) (nI 0) rd nu pt (dgE z (wyD z (nR z) wy) ik (dg2 z wy ns)) ((bestI z (layF z (wyRow z ik (wyD z (nR z) wy))) (nI ik)).toInt64) ) (cwV 1 hts gX5_digest_X5_mix rfl rfl rfl k_X5_mix ⟨Nat.le_of_ble_eq_true rfl, Nat.le_of_ble_eq_true rfl⟩) hP hD hK hS [0, 1, 2, 3, 4, 5] [] rfl rfl (wr := []) rfl (by decide) (by decide) (by decide) (va_recv (q := (RX5, TX5, 12)) hK hP (ci := 5) (q0 := 0) rfl rfl) rfl hl.1 rfl (Nat.le_of_ble_eq_true rfl) dX5_digest_132 ⟨Nat.le_of_ble_eq_true rfl, Nat.le_of_ble_eq_true rfl⟩ (fun H locs hP hD hS => ?_)
            have hP : va_P D vwCl (MW a cI z (nI ns) zh (nI nl) tx (nI 0) pa rd nu pt (layF z (wyRow z ik (wyD z (nR z) wy))) (mixL (dgE z (wyD z (nR z) wy) ik (dg2 z wy ns)) ((bestI z (layF z (wyRow z ik (wyD z (nR z) wy))) (nI ik)).toInt64))) H := hP
            have hD : va_D (kA w0) (MW a cI z (nI ns) zh (nI nl) tx (nI 0) pa rd nu pt (layF z (wyRow z ik (wyD z (nR z) wy))) (mixL (dgE z (wyD z (nR z) wy) ik (dg2 z wy ns)) ((bestI z (layF z (wyRow z ik (wyD z (nR z) wy))) (nI ik)).toInt64))) := hD
            refine lv_iinc (v := nI (ik + 1)) (lv' := [(1, .int (nI (ik + 1))), (0, .ref (a 0))]) hx hb dX5_digest_135 hl (k := 1) rfl (kx_inc 1) (by decide) rfl (fun ls hl => ?_)
            refine lv_goto (tgt := 120) hx hb dX5_digest_138 (by decide) ?_
            have e120_39 : (ik + 1 : Nat) = ((ik + 1)) := by first | rfl | omega | (simp [Int32.not_lt, Int32.not_le, c_17_2, Nat.not_lt.mpr c_17_2, c_40_7, Nat.not_lt.mpr c_40_7, c_69_13, Nat.not_lt.mpr c_69_13, c_94_18, Nat.not_lt.mpr c_94_18, c_122_25, Nat.not_le.mpr c_122_25]; done) | (simp [Int32.not_lt, Int32.not_le, c_17_2, Nat.not_lt.mpr c_17_2, c_40_7, Nat.not_lt.mpr c_40_7, c_69_13, Nat.not_lt.mpr c_69_13, c_94_18, Nat.not_lt.mpr c_94_18, c_122_25, Nat.not_le.mpr c_122_25]; omega) | (revert c_17_2 c_40_7 c_69_13 c_94_18 c_122_25; simp +contextual [Int32.not_lt, Int32.not_le]; done) | (revert c_17_2 c_40_7 c_69_13 c_94_18 c_122_25; simp +contextual [Int32.not_lt, Int32.not_le]; omega)
            have hl120_40 : lv_has ls 2 [(0, .ref (a 0)), (1, .int (nI (ik + 1)))] := lv_eqv (l1 := [(0, .ref (a 0)), (1, .int (nI (ik + 1)))]) (lv_sub hl [1, 0] rfl) (lv_ce rfl (lv_ce (congrArg (fun x => Value.int (nI x)) e120_39) rfl))
            have ec_wy_41 : ((layF z (wyRow z ik (wyD z (nR z) wy))) : ZZ) = (wyRow z (ik + 1) (wyD z (nR z) wy)) := by first | rfl | omega | (simp [Int32.not_lt, Int32.not_le, c_17_2, Nat.not_lt.mpr c_17_2, c_40_7, Nat.not_lt.mpr c_40_7, c_69_13, Nat.not_lt.mpr c_69_13, c_94_18, Nat.not_lt.mpr c_94_18, c_122_25, Nat.not_le.mpr c_122_25]; done) | (simp [Int32.not_lt, Int32.not_le, c_17_2, Nat.not_lt.mpr c_17_2, c_40_7, Nat.not_lt.mpr c_40_7, c_69_13, Nat.not_lt.mpr c_69_13, c_94_18, Nat.not_lt.mpr c_94_18, c_122_25, Nat.not_le.mpr c_122_25]; omega) | (revert c_17_2 c_40_7 c_69_13 c_94_18 c_122_25; simp +contextual [Int32.not_lt, Int32.not_le]; done) | (revert c_17_2 c_40_7 c_69_13 c_94_18 c_122_25; simp +contextual [Int32.not_lt, Int32.not_le]; omega)
            have ec_za_42 : ((mixL (dgE z (wyD z (nR z) wy) ik (dg2 z wy ns)) ((bestI z (layF z (wyRow z ik (wyD z (nR z) wy))) (nI ik)).toInt64)) : Int64) = (dgE z (wyD z (nR z) wy) (ik + 1) (dg2 z wy ns)) := by exact (dgE_s _ _ _ _).symm
            have ew_43 : (MW a cI z (nI ns) zh (nI nl) tx (nI 0) pa rd nu pt (layF z (wyRow z ik (wyD z (nR z) wy))) (mixL (dgE z (wyD z (nR z) wy) ik (dg2 z wy ns)) ((bestI z (layF z (wyRow z ik (wyD z (nR z) wy))) (nI ik)).toInt64)) : va_W) = (MW a cI z (nI ns) zh (nI nl) tx (nI 0) pa rd nu pt (wyRow z (ik + 1) (wyD z (nR z) wy)) (dgE z (wyD z (nR z) wy) (ik + 1) (dg2 z wy ns))) := mw_c rfl rfl rfl rfl rfl rfl rfl rfl rfl rfl ec_wy_41 ec_za_42
            rw [ew_43] at hP hD
            exact ih120 _ _ _ (by omega) ⟨⟨hP, hD, hS⟩, hl120_40⟩
        · refine lv_aload_n hx hb dX5_digest_97 rfl (lv_at hl 0 rfl) ?_
          refine lv_aload_n hx hb dX5_digest_98 rfl (lv_at hl 0 rfl) ?_
          refine lv_iload_n hx hb dX5_digest_99 rfl (lv_at hl 1 rfl) ?_
          refine lv_iconst (v := nI 4) hx hb dX5_digest_100 (by decide) ?_
          refine kx_idiv hx hb (by omega) (by omega) (by omega) dX5_digest_101 ?_
          refine lv_iload_n hx hb dX5_digest_102 rfl (lv_at hl 1 rfl) ?_
          refine lv_iconst (v := nI 4) hx hb dX5_digest_103 (by decide) ?_
          refine kx_irem hx hb (by omega) (by omega) (by omega) dX5_digest_104 ?_
          refine kr_V (As := [.int (nI (ik / 4)), .int (nI (ik % 4))]) (rest := [.ref (a 0)]) (C := RX5) (own := RX5) ⟨hx, hb, hml, hown, hts⟩ (c_X5_columnNow l D cI cC cH cL a z zh tx pa (wyD z (nR z) wy) (nI ns) (nI nl) (nI 0) rd nu pt (dgD z ik (dgC z wy (nR z) (dg1 z ns))) (ik / 4) (ik % 4) (by first | assumption | omega) (by omega) (by omega)) (cwV 2 hts gX5_digest_X5_columnNow rfl rfl rfl k_X5_columnNow ⟨Nat.le_of_ble_eq_true rfl, Nat.le_of_ble_eq_true rfl⟩) hP hK (va_recv (q := (RX5, TX5, 12)) hK hP (ci := 5) (q0 := 0) rfl rfl) rfl hl.1 rfl (Nat.le_of_ble_eq_true rfl) dX5_digest_105 ⟨Nat.le_of_ble_eq_true rfl, Nat.le_of_ble_eq_true rfl⟩ ?_
          refine lv_i2l hx hb dX5_digest_108 rfl ?_
          refine kw_V (As := [.long ((colNow z (ik / 4) (ik % 4)).toInt64)]) (rest := []) (C := RX5) (own := RX5) ⟨hx, hb, hml, hown, hts⟩ (c_X5_mix l D cI cC cH cL a z zh tx pa (wyD z (nR z) wy) (nI ns) (nI nl) (nI 0) rd nu pt (dgD z ik (dgC z wy (nR z) (dg1 z ns))) ((colNow z (ik / 4) (ik % 4)).toInt64) ) (cwV 1 hts gX5_digest_X5_mix rfl rfl rfl k_X5_mix ⟨Nat.le_of_ble_eq_true rfl, Nat.le_of_ble_eq_true rfl⟩) hP hD hK hS [0, 1, 2, 3, 4, 5] [] rfl rfl (wr := []) rfl (by decide) (by decide) (by decide) (va_recv (q := (RX5, TX5, 12)) hK hP (ci := 5) (q0 := 0) rfl rfl) rfl hl.1 rfl (Nat.le_of_ble_eq_true rfl) dX5_digest_109 ⟨Nat.le_of_ble_eq_true rfl, Nat.le_of_ble_eq_true rfl⟩ (fun H locs hP hD hS => ?_)
          have hP : va_P D vwCl (MW a cI z (nI ns) zh (nI nl) tx (nI 0) pa rd nu pt (wyD z (nR z) wy) (mixL (dgD z ik (dgC z wy (nR z) (dg1 z ns))) ((colNow z (ik / 4) (ik % 4)).toInt64))) H := hP
          have hD : va_D (kA w0) (MW a cI z (nI ns) zh (nI nl) tx (nI 0) pa rd nu pt (wyD z (nR z) wy) (mixL (dgD z ik (dgC z wy (nR z) (dg1 z ns))) ((colNow z (ik / 4) (ik % 4)).toInt64))) := hD
          refine lv_iinc (v := nI (ik + 1)) (lv' := [(1, .int (nI (ik + 1))), (0, .ref (a 0))]) hx hb dX5_digest_112 hl (k := 1) rfl (kx_inc 1) (by decide) rfl (fun ls hl => ?_)
          refine lv_goto (tgt := 85) hx hb dX5_digest_115 (by decide) ?_
          have e85_44 : (ik + 1 : Nat) = ((ik + 1)) := by first | rfl | omega | (simp [Int32.not_lt, Int32.not_le, c_17_2, Nat.not_lt.mpr c_17_2, c_40_7, Nat.not_lt.mpr c_40_7, c_69_13, Nat.not_lt.mpr c_69_13, c_94_19, Nat.not_le.mpr c_94_19]; done) | (simp [Int32.not_lt, Int32.not_le, c_17_2, Nat.not_lt.mpr c_17_2, c_40_7, Nat.not_lt.mpr c_40_7, c_69_13, Nat.not_lt.mpr c_69_13, c_94_19, Nat.not_le.mpr c_94_19]; omega) | (revert c_17_2 c_40_7 c_69_13 c_94_19; simp +contextual [Int32.not_lt, Int32.not_le]; done) | (revert c_17_2 c_40_7 c_69_13 c_94_19; simp +contextual [Int32.not_lt, Int32.not_le]; omega)
          have hl85_45 : lv_has ls 2 [(0, .ref (a 0)), (1, .int (nI (ik + 1)))] := lv_eqv (l1 := [(0, .ref (a 0)), (1, .int (nI (ik + 1)))]) (lv_sub hl [1, 0] rfl) (lv_ce rfl (lv_ce (congrArg (fun x => Value.int (nI x)) e85_44) rfl))
          have ec_za_46 : ((mixL (dgD z ik (dgC z wy (nR z) (dg1 z ns))) ((colNow z (ik / 4) (ik % 4)).toInt64)) : Int64) = (dgD z (ik + 1) (dgC z wy (nR z) (dg1 z ns))) := by exact (dgD_s _ _ _).symm
          have ew_47 : (MW a cI z (nI ns) zh (nI nl) tx (nI 0) pa rd nu pt (wyD z (nR z) wy) (mixL (dgD z ik (dgC z wy (nR z) (dg1 z ns))) ((colNow z (ik / 4) (ik % 4)).toInt64)) : va_W) = (MW a cI z (nI ns) zh (nI nl) tx (nI 0) pa rd nu pt (wyD z (nR z) wy) (dgD z (ik + 1) (dgC z wy (nR z) (dg1 z ns)))) := mw_c rfl rfl rfl rfl rfl rfl rfl rfl rfl rfl rfl ec_za_46
          rw [ew_47] at hP hD
          exact ih85 _ _ _ (by omega) ⟨⟨hP, hD, hS⟩, hl85_45⟩
      · refine lv_aload_n hx hb dX5_digest_72 rfl (lv_at hl 0 rfl) ?_
        refine lv_iload_n hx hb dX5_digest_73 rfl (lv_at hl 1 rfl) ?_
        refine kw_V (As := [.int (nI ik)]) (rest := []) (C := RX5) (own := RX5) ⟨hx, hb, hml, hown, hts⟩ (c_X5_mixRow l D cI cC cH cL a z zh tx pa (wyD z ik wy) (nI ns) (nI nl) (nI 0) rd nu pt (dgC z wy ik (dg1 z ns)) ik (by first | assumption | omega) (by first | assumption | omega) (by first | assumption | omega)) (cwV 1 hts gX5_digest_X5_mixRow rfl rfl rfl k_X5_mixRow ⟨Nat.le_of_ble_eq_true rfl, Nat.le_of_ble_eq_true rfl⟩) hP hD hK hS [0, 1, 2, 3, 4, 5] [] rfl rfl (wr := []) rfl (by decide) (by decide) (by decide) (va_recv (q := (RX5, TX5, 12)) hK hP (ci := 5) (q0 := 0) rfl rfl) rfl hl.1 rfl (Nat.le_of_ble_eq_true rfl) dX5_digest_74 ⟨Nat.le_of_ble_eq_true rfl, Nat.le_of_ble_eq_true rfl⟩ (fun H locs hP hD hS => ?_)
        have hP : va_P D vwCl (MW a cI z (nI ns) zh (nI nl) tx (nI 0) pa rd nu pt (wyRow z (nS z ik) (wyD z ik wy)) (mixRowL z (wyD z ik wy) ik (dgC z wy ik (dg1 z ns)))) H := hP
        have hD : va_D (kA w0) (MW a cI z (nI ns) zh (nI nl) tx (nI 0) pa rd nu pt (wyRow z (nS z ik) (wyD z ik wy)) (mixRowL z (wyD z ik wy) ik (dgC z wy ik (dg1 z ns)))) := hD
        refine lv_iinc (v := nI (ik + 1)) (lv' := [(1, .int (nI (ik + 1))), (0, .ref (a 0))]) hx hb dX5_digest_77 hl (k := 1) rfl (kx_inc 1) (by decide) rfl (fun ls hl => ?_)
        refine lv_goto (tgt := 62) hx hb dX5_digest_80 (by decide) ?_
        have e62_48 : (ik + 1 : Nat) = ((ik + 1)) := by first | rfl | omega | (simp [Int32.not_lt, Int32.not_le, c_17_2, Nat.not_lt.mpr c_17_2, c_40_7, Nat.not_lt.mpr c_40_7, c_69_14, Nat.not_le.mpr c_69_14]; done) | (simp [Int32.not_lt, Int32.not_le, c_17_2, Nat.not_lt.mpr c_17_2, c_40_7, Nat.not_lt.mpr c_40_7, c_69_14, Nat.not_le.mpr c_69_14]; omega) | (revert c_17_2 c_40_7 c_69_14; simp +contextual [Int32.not_lt, Int32.not_le]; done) | (revert c_17_2 c_40_7 c_69_14; simp +contextual [Int32.not_lt, Int32.not_le]; omega)
        have hl62_49 : lv_has ls 2 [(0, .ref (a 0)), (1, .int (nI (ik + 1)))] := lv_eqv (l1 := [(0, .ref (a 0)), (1, .int (nI (ik + 1)))]) (lv_sub hl [1, 0] rfl) (lv_ce rfl (lv_ce (congrArg (fun x => Value.int (nI x)) e62_48) rfl))
        have ec_wy_50 : ((wyRow z (nS z ik) (wyD z ik wy)) : ZZ) = (wyD z (ik + 1) wy) := by first | rfl | omega | (simp [Int32.not_lt, Int32.not_le, c_17_2, Nat.not_lt.mpr c_17_2, c_40_7, Nat.not_lt.mpr c_40_7, c_69_14, Nat.not_le.mpr c_69_14]; done) | (simp [Int32.not_lt, Int32.not_le, c_17_2, Nat.not_lt.mpr c_17_2, c_40_7, Nat.not_lt.mpr c_40_7, c_69_14, Nat.not_le.mpr c_69_14]; omega) | (revert c_17_2 c_40_7 c_69_14; simp +contextual [Int32.not_lt, Int32.not_le]; done) | (revert c_17_2 c_40_7 c_69_14; simp +contextual [Int32.not_lt, Int32.not_le]; omega)
        have ec_za_51 : ((mixRowL z (wyD z ik wy) ik (dgC z wy ik (dg1 z ns))) : Int64) = (dgC z wy (ik + 1) (dg1 z ns)) := by exact (dgC_s _ _ _ _).symm
        have ew_52 : (MW a cI z (nI ns) zh (nI nl) tx (nI 0) pa rd nu pt (wyRow z (nS z ik) (wyD z ik wy)) (mixRowL z (wyD z ik wy) ik (dgC z wy ik (dg1 z ns))) : va_W) = (MW a cI z (nI ns) zh (nI nl) tx (nI 0) pa rd nu pt (wyD z (ik + 1) wy) (dgC z wy (ik + 1) (dg1 z ns))) := mw_c rfl rfl rfl rfl rfl rfl rfl rfl rfl rfl ec_wy_50 ec_za_51
        rw [ew_52] at hP hD
        exact ih62 _ _ _ (by omega) ⟨⟨hP, hD, hS⟩, hl62_49⟩
    · refine lv_aload_n hx hb dX5_digest_43 rfl (lv_at hl 0 rfl) ?_
      refine lv_aload_n hx hb dX5_digest_44 rfl (lv_at hl 0 rfl) ?_
      refine va_get (D := D) (ci := 5) (v := .ref (a 1)) (C := RX5) (T := TX5) (N := 12) hx hb hts iX5_digest_5 hown hK hP 0 rfl rfl 0 (by decide) (hts (.fieldLink RX5 7 "HallSightsModel" "z" "[I") (List.mem_of_getElem? (i := 4) rfl)) (fun _ h9 => h9) rfl dX5_digest_45 ?_
      refine lv_iload_n hx hb dX5_digest_48 rfl (lv_at hl 1 rfl) ?_
      refine kx_iald hx hb hK hP 1 0 rfl rfl (by omega) (by decide) dX5_digest_49 ?_
      refine lv_i2l hx hb dX5_digest_50 rfl ?_
      refine kw_V (As := [.long ((z ik).toInt64)]) (rest := []) (C := RX5) (own := RX5) ⟨hx, hb, hml, hown, hts⟩ (c_X5_mix l D cI cC cH cL a z zh tx pa wy (nI ns) (nI nl) (nI 0) rd nu pt (dgB z ik (dgA z ns 9 2621)) ((z ik).toInt64) ) (cwV 1 hts gX5_digest_X5_mix rfl rfl rfl k_X5_mix ⟨Nat.le_of_ble_eq_true rfl, Nat.le_of_ble_eq_true rfl⟩) hP hD hK hS [0, 1, 2, 3, 4, 5] [] rfl rfl (wr := []) rfl (by decide) (by decide) (by decide) (va_recv (q := (RX5, TX5, 12)) hK hP (ci := 5) (q0 := 0) rfl rfl) rfl hl.1 rfl (Nat.le_of_ble_eq_true rfl) dX5_digest_51 ⟨Nat.le_of_ble_eq_true rfl, Nat.le_of_ble_eq_true rfl⟩ (fun H locs hP hD hS => ?_)
      have hP : va_P D vwCl (MW a cI z (nI ns) zh (nI nl) tx (nI 0) pa rd nu pt wy (mixL (dgB z ik (dgA z ns 9 2621)) ((z ik).toInt64))) H := hP
      have hD : va_D (kA w0) (MW a cI z (nI ns) zh (nI nl) tx (nI 0) pa rd nu pt wy (mixL (dgB z ik (dgA z ns 9 2621)) ((z ik).toInt64))) := hD
      refine lv_iinc (v := nI (ik + 1)) (lv' := [(1, .int (nI (ik + 1))), (0, .ref (a 0))]) hx hb dX5_digest_54 hl (k := 1) rfl (kx_inc 1) (by decide) rfl (fun ls hl => ?_)
      refine lv_goto (tgt := 38) hx hb dX5_digest_57 (by decide) ?_
      have e38_53 : (ik + 1 : Nat) = ((ik + 1)) := by first | rfl | omega | (simp [Int32.not_lt, Int32.not_le, c_17_2, Nat.not_lt.mpr c_17_2, c_40_8, Nat.not_le.mpr c_40_8]; done) | (simp [Int32.not_lt, Int32.not_le, c_17_2, Nat.not_lt.mpr c_17_2, c_40_8, Nat.not_le.mpr c_40_8]; omega) | (revert c_17_2 c_40_8; simp +contextual [Int32.not_lt, Int32.not_le]; done) | (revert c_17_2 c_40_8; simp +contextual [Int32.not_lt, Int32.not_le]; omega)
      have hl38_54 : lv_has ls 2 [(0, .ref (a 0)), (1, .int (nI (ik + 1)))] := lv_eqv (l1 := [(0, .ref (a 0)), (1, .int (nI (ik + 1)))]) (lv_sub hl [1, 0] rfl) (lv_ce rfl (lv_ce (congrArg (fun x => Value.int (nI x)) e38_53) rfl))
      have ec_za_55 : ((mixL (dgB z ik (dgA z ns 9 2621)) ((z ik).toInt64)) : Int64) = (dgB z (ik + 1) (dgA z ns 9 2621)) := by exact (dgB_s _ _ _).symm
      have ew_56 : (MW a cI z (nI ns) zh (nI nl) tx (nI 0) pa rd nu pt wy (mixL (dgB z ik (dgA z ns 9 2621)) ((z ik).toInt64)) : va_W) = (MW a cI z (nI ns) zh (nI nl) tx (nI 0) pa rd nu pt wy (dgB z (ik + 1) (dgA z ns 9 2621))) := mw_c rfl rfl rfl rfl rfl rfl rfl rfl rfl rfl rfl ec_za_55
      rw [ew_56] at hP hD
      exact ih38 _ _ _ (by omega) ⟨⟨hP, hD, hS⟩, hl38_54⟩
  · refine lv_aload_n hx hb dX5_digest_20 rfl (lv_at hl 0 rfl) ?_
    refine lv_aload_n hx hb dX5_digest_21 rfl (lv_at hl 0 rfl) ?_
    refine lv_iload_n hx hb dX5_digest_22 rfl (lv_at hl 1 rfl) ?_
    refine kr_V (As := [.int (nI ik)]) (rest := [.ref (a 0)]) (C := RX5) (own := RX5) ⟨hx, hb, hml, hown, hts⟩ (c_X5_counted l D cI cC cH cL a z zh tx pa wy ns nl (nI 0) rd nu pt (dgA z ns ik 2621) ik (by first | assumption | omega) (by first | assumption | omega)) (cwV 1 hts gX5_digest_X5_counted rfl rfl rfl k_X5_counted ⟨Nat.le_of_ble_eq_true rfl, Nat.le_of_ble_eq_true rfl⟩) hP hK (va_recv (q := (RX5, TX5, 12)) hK hP (ci := 5) (q0 := 0) rfl rfl) rfl hl.1 rfl (Nat.le_of_ble_eq_true rfl) dX5_digest_23 ⟨Nat.le_of_ble_eq_true rfl, Nat.le_of_ble_eq_true rfl⟩ ?_
    refine lv_i2l hx hb dX5_digest_26 rfl ?_
    refine kw_V (As := [.long ((countI z ns ik).toInt64)]) (rest := []) (C := RX5) (own := RX5) ⟨hx, hb, hml, hown, hts⟩ (c_X5_mix l D cI cC cH cL a z zh tx pa wy (nI ns) (nI nl) (nI 0) rd nu pt (dgA z ns ik 2621) ((countI z ns ik).toInt64) ) (cwV 1 hts gX5_digest_X5_mix rfl rfl rfl k_X5_mix ⟨Nat.le_of_ble_eq_true rfl, Nat.le_of_ble_eq_true rfl⟩) hP hD hK hS [0, 1, 2, 3, 4, 5] [] rfl rfl (wr := []) rfl (by decide) (by decide) (by decide) (va_recv (q := (RX5, TX5, 12)) hK hP (ci := 5) (q0 := 0) rfl rfl) rfl hl.1 rfl (Nat.le_of_ble_eq_true rfl) dX5_digest_27 ⟨Nat.le_of_ble_eq_true rfl, Nat.le_of_ble_eq_true rfl⟩ (fun H locs hP hD hS => ?_)
    have hP : va_P D vwCl (MW a cI z (nI ns) zh (nI nl) tx (nI 0) pa rd nu pt wy (mixL (dgA z ns ik 2621) ((countI z ns ik).toInt64))) H := hP
    have hD : va_D (kA w0) (MW a cI z (nI ns) zh (nI nl) tx (nI 0) pa rd nu pt wy (mixL (dgA z ns ik 2621) ((countI z ns ik).toInt64))) := hD
    refine lv_iinc (v := nI (ik + 1)) (lv' := [(1, .int (nI (ik + 1))), (0, .ref (a 0))]) hx hb dX5_digest_30 hl (k := 1) rfl (kx_inc 1) (by decide) rfl (fun ls hl => ?_)
    refine lv_goto (tgt := 14) hx hb dX5_digest_33 (by decide) ?_
    have e14_57 : (ik + 1 : Nat) = ((ik + 1)) := by first | rfl | omega | (simp [Int32.not_lt, Int32.not_le, c_17_3, Nat.not_le.mpr c_17_3]; done) | (simp [Int32.not_lt, Int32.not_le, c_17_3, Nat.not_le.mpr c_17_3]; omega) | (revert c_17_3; simp +contextual [Int32.not_lt, Int32.not_le]; done) | (revert c_17_3; simp +contextual [Int32.not_lt, Int32.not_le]; omega)
    have hl14_58 : lv_has ls 2 [(0, .ref (a 0)), (1, .int (nI (ik + 1)))] := lv_eqv (l1 := [(0, .ref (a 0)), (1, .int (nI (ik + 1)))]) (lv_sub hl [1, 0] rfl) (lv_ce rfl (lv_ce (congrArg (fun x => Value.int (nI x)) e14_57) rfl))
    have ec_za_59 : ((mixL (dgA z ns ik 2621) ((countI z ns ik).toInt64)) : Int64) = (dgA z ns (ik + 1) 2621) := by exact (dgA_s _ _ _ _).symm
    have ew_60 : (MW a cI z (nI ns) zh (nI nl) tx (nI 0) pa rd nu pt wy (mixL (dgA z ns ik 2621) ((countI z ns ik).toInt64)) : va_W) = (MW a cI z (nI ns) zh (nI nl) tx (nI 0) pa rd nu pt wy (dgA z ns (ik + 1) 2621)) := mw_c rfl rfl rfl rfl rfl rfl rfl rfl rfl rfl rfl ec_za_59
    rw [ew_60] at hP hD
    exact ih14 _ _ _ (by omega) ⟨⟨hP, hD, hS⟩, hl14_58⟩
