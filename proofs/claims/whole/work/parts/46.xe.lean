set_option maxHeartbeats 4000000 in
set_option maxRecDepth 100000 in
theorem c_X4_bitsOfShare (l : Launch) (D : va_G) (cI cC cH cL : ClassId)  (d0 : UInt64) (hB : bosP d0) : Met l yX4_bitsOfShare wsX4_bitsOfShare ({ frames := 0, cells := 0, slots := 0, locals := 0 }) (kp [.double d0] D ([]) (kT cI cC cH cL)) (kr (.returned (some (.long (bosI d0))))) 0 0 (fun _ => False) := by
  refine Met.ofW (cc := cX4_bitsOfShare) (maxL := 6) (ret := (some .long)) (by decide) rfl ?_
  intro p e s m args below meth c s₁ B hml hv
  obtain ⟨rfl, hP, hK⟩ := hv
  have hx := B.exec
  have hb := B.bytes
  have hrt := B.returns
  have hts := atoms_spec (ws := wsX4_bitsOfShare) B.pre
  have hown : s.vm.findClass RX4 = some m.cls := findClass_of_methodNamed B.named
  have hlocks := B.notSynchronized
  have hl := lv_entry ([.double d0]) (n := 6) (Nat.le_of_ble_eq_true rfl)
  rw [lg_entry_eq]
  generalize (lg_sl ([.double d0]) ++ List.replicate (6 - (lg_sl ([.double d0])).length) Slot.unset).toArray = ls at hl ⊢
  have hl : lv_has ls 6 [(0, .double d0)] := hl
  have hk8 := bosK_le 8 d0
  refine lv_dload_n hx hb dX4_bitsOfShare_0 rfl (lv_at hl 0 rfl) ?_
  refine lv_dconst0 hx hb dX4_bitsOfShare_1 ?_
  refine lv_dcmp hx hb dX4_bitsOfShare_2 ?_
  refine lv_if_gt (tgt := 8) hx hb dX4_bitsOfShare_3 (by decide) (fun c_3_0 => ?_) (fun c_3_1 => ?_)
  · have c_3_0 : (0 : Int32) < (Op.cmpValue (FP.dcmp d0 FP.dconst0) CmpOp.g) := c_3_0
    have h3c := c_3_0
    have hQ := hB h3c
    refine lv_dload_n hx hb dX4_bitsOfShare_8 rfl (lv_at hl 0 rfl) ?_
    refine lv_dstore_n (lv' := [(2, .double d0), (0, .double d0)]) hx hb dX4_bitsOfShare_9 rfl hl (by decide) rfl (fun ls hl => ?_)
    refine lv_ldc2 (v := 1023) hx hb hown (hts (.constantLong RX4 340 (1023)) (List.mem_of_getElem? (i := 1) rfl)) dX4_bitsOfShare_10 ?_
    refine lv_lstore (lv' := [(4, .long 1023), (2, .double d0), (0, .double d0)]) hx hb dX4_bitsOfShare_13 hl (by decide) rfl (fun ls hl => ?_)
    have e15_2 : (d0 : UInt64) = ((dblN 0 d0)) := by first | exact (dblN_s ij d0).symm | rfl
    have e15_3 : (1023 : Int64) = ((1023 - Int64.ofNat 0)) := by first | exact lo_s ij (by omega) | rfl
    have hl15_4 : lv_has ls 6 [(2, .double (dblN 0 d0)), (4, .long (1023 - Int64.ofNat 0))] := lv_eqv (l1 := [(2, .double d0), (4, .long 1023)]) (lv_sub hl [1, 0] rfl) (lv_ce (congrArg Value.double e15_2) (lv_ce (congrArg Value.long e15_3) rfl))
    refine kx_up (fun k ls => lv_has ls 6 [(2, .double (dblN k d0)), (4, .long (1023 - Int64.ofNat k))]) (0) ((bosK 8 d0)) (by omega) ls (hl15_4) ?_
    intro ij ls hijl hijh hp ih15
    have hl := hp
    refine lv_dload_n hx hb dX4_bitsOfShare_15 rfl (lv_at hl 0 rfl) ?_
    refine lv_dconst1 hx hb dX4_bitsOfShare_16 ?_
    refine lv_dcmp hx hb dX4_bitsOfShare_17 ?_
    refine lv_if_ge (tgt := 43) hx hb dX4_bitsOfShare_18 (by decide) (fun c_18_5 => ?_) (fun c_18_6 => ?_)
    · have c_18_5 : (0 : Int32) ≤ (Op.cmpValue (FP.dcmp (dblN ij d0) FP.dconst1) CmpOp.g) := c_18_5
      have hq7 : bosK 8 d0 = ij := Nat.le_antisymm (Nat.le_of_not_lt fun q9 => absurd c_18_5 (bosG_f (hQ.1 ij q9).1)) (by omega)
      subst hq7
      refine lv_lload hx hb dX4_bitsOfShare_43 (lv_at hl 1 rfl) ?_
      refine lv_ldc2 (v := 4503599627370496) hx hb hown (hts (.constantLong RX4 344 (4503599627370496)) (List.mem_of_getElem? (i := 3) rfl)) dX4_bitsOfShare_45 ?_
      refine lv_lmul hx hb dX4_bitsOfShare_48 ?_
      refine lv_dload_n hx hb dX4_bitsOfShare_49 rfl (lv_at hl 0 rfl) ?_
      refine lv_dconst1 hx hb dX4_bitsOfShare_50 ?_
      refine lv_dsub hx hb dX4_bitsOfShare_51 (by exact hQ.2.2.1) ?_
      refine lv_ldc2d (v := 4841369599423283200) hx hb hown (hts (.constantDouble RX4 346 (4841369599423283200)) (List.mem_of_getElem? (i := 4) rfl)) dX4_bitsOfShare_52 ?_
      refine lv_dmul hx hb dX4_bitsOfShare_55 (by exact hQ.2.2.2) ?_
      refine lv_d2l hx hb dX4_bitsOfShare_56 ?_
      refine lv_ladd hx hb dX4_bitsOfShare_57 ?_
      have e_8 : ((((1023 - Int64.ofNat (bosK 8 d0)) * 4503599627370496) + (FP.d2l (FP.dmul (FP.dsub (dblN (bosK 8 d0) d0) FP.dconst1) 4841369599423283200)))) = (bosI d0) := by exact bosI_p h3c
      exact kr_lret hx hb hrt hlocks e_8 rfl dX4_bitsOfShare_58
    · have c_18_6 : ¬ (0 : Int32) ≤ (Op.cmpValue (FP.dcmp (dblN ij d0) FP.dconst1) CmpOp.g) := c_18_6
      refine lv_lload hx hb dX4_bitsOfShare_21 (lv_at hl 1 rfl) ?_
      refine lv_lconst (v := 1) hx hb dX4_bitsOfShare_23 (by decide) ?_
      refine kx_lcmp hx hb dX4_bitsOfShare_24 ?_
      refine lv_if_le (tgt := 43) hx hb dX4_bitsOfShare_25 (by decide) (fun c_25_9 => ?_) (fun c_25_10 => ?_)
      · have c_25_9 : ((lcI (1023 - Int64.ofNat ij) 1) : Int32) ≤ 0 := c_25_9
        have hq11 : bosK 8 d0 = ij := Nat.le_antisymm (Nat.le_of_not_lt fun q9 => absurd c_25_9 (lc_le ij (by omega))) (by omega)
        subst hq11
        refine lv_lload hx hb dX4_bitsOfShare_43 (lv_at hl 1 rfl) ?_
        refine lv_ldc2 (v := 4503599627370496) hx hb hown (hts (.constantLong RX4 344 (4503599627370496)) (List.mem_of_getElem? (i := 3) rfl)) dX4_bitsOfShare_45 ?_
        refine lv_lmul hx hb dX4_bitsOfShare_48 ?_
        refine lv_dload_n hx hb dX4_bitsOfShare_49 rfl (lv_at hl 0 rfl) ?_
        refine lv_dconst1 hx hb dX4_bitsOfShare_50 ?_
        refine lv_dsub hx hb dX4_bitsOfShare_51 (by exact hQ.2.2.1) ?_
        refine lv_ldc2d (v := 4841369599423283200) hx hb hown (hts (.constantDouble RX4 346 (4841369599423283200)) (List.mem_of_getElem? (i := 4) rfl)) dX4_bitsOfShare_52 ?_
        refine lv_dmul hx hb dX4_bitsOfShare_55 (by exact hQ.2.2.2) ?_
        refine lv_d2l hx hb dX4_bitsOfShare_56 ?_
        refine lv_ladd hx hb dX4_bitsOfShare_57 ?_
        have e_12 : ((((1023 - Int64.ofNat (bosK 8 d0)) * 4503599627370496) + (FP.d2l (FP.dmul (FP.dsub (dblN (bosK 8 d0) d0) FP.dconst1) 4841369599423283200)))) = (bosI d0) := by exact bosI_p h3c
        exact kr_lret hx hb hrt hlocks e_12 rfl dX4_bitsOfShare_58
      · have c_25_10 : ¬ ((lcI (1023 - Int64.ofNat ij) 1) : Int32) ≤ 0 := c_25_10
        have hlt28 : ij < bosK 8 d0 := Nat.lt_of_le_of_ne (by omega) (fun q9 => c_18_6 (by rw [q9]; exact bosG_t hQ.2.1))
        refine lv_dload_n hx hb dX4_bitsOfShare_28 rfl (lv_at hl 0 rfl) ?_
        refine lv_ldc2d (v := 4611686018427387904) hx hb hown (hts (.constantDouble RX4 342 (4611686018427387904)) (List.mem_of_getElem? (i := 2) rfl)) dX4_bitsOfShare_29 ?_
        refine lv_dmul hx hb dX4_bitsOfShare_32 (by exact (hQ.1 ij hlt28).2) ?_
        refine lv_dstore_n (lv' := [(2, .double (FP.dmul (dblN ij d0) 4611686018427387904)), (4, .long (1023 - Int64.ofNat ij))]) hx hb dX4_bitsOfShare_33 rfl hl (by decide) rfl (fun ls hl => ?_)
        refine lv_lload hx hb dX4_bitsOfShare_34 (lv_at hl 1 rfl) ?_
        refine lv_lconst (v := 1) hx hb dX4_bitsOfShare_36 (by decide) ?_
        refine lv_lsub hx hb dX4_bitsOfShare_37 ?_
        refine lv_lstore (lv' := [(4, .long ((1023 - Int64.ofNat ij) - 1)), (2, .double (FP.dmul (dblN ij d0) 4611686018427387904))]) hx hb dX4_bitsOfShare_38 hl (by decide) rfl (fun ls hl => ?_)
        refine lv_goto (tgt := 15) hx hb dX4_bitsOfShare_40 (by decide) ?_
        have e15_13 : ((FP.dmul (dblN ij d0) 4611686018427387904) : UInt64) = ((dblN (ij + 1) d0)) := by first | exact (dblN_s ij d0).symm | rfl
        have e15_14 : (((1023 - Int64.ofNat ij) - 1) : Int64) = ((1023 - Int64.ofNat (ij + 1))) := by first | exact lo_s ij (by omega) | rfl
        have hl15_15 : lv_has ls 6 [(2, .double (dblN (ij + 1) d0)), (4, .long (1023 - Int64.ofNat (ij + 1)))] := lv_eqv (l1 := [(2, .double (FP.dmul (dblN ij d0) 4611686018427387904)), (4, .long ((1023 - Int64.ofNat ij) - 1))]) (lv_sub hl [1, 0] rfl) (lv_ce (congrArg Value.double e15_13) (lv_ce (congrArg Value.long e15_14) rfl))
        exact ih15 _ (by omega) (hl15_15)
  · have c_3_1 : ¬ (0 : Int32) < (Op.cmpValue (FP.dcmp d0 FP.dconst0) CmpOp.g) := c_3_1
    refine lv_lconst (v := 0) hx hb dX4_bitsOfShare_6 (by decide) ?_
    have e_16 : (0) = (bosI d0) := by exact bosI_n (by assumption)
    exact kr_lret hx hb hrt hlocks e_16 rfl dX4_bitsOfShare_7
