/-! the law: its end, its loop -/
/-! THE CLAIM OUT OF ONE WALK OF THE LAW'S BODY. Your part is whole_start (and what it stands on); all else here is the same for every law, but numbers. -/
def R_law : String := "HallSightsLaw"
def lw_P (b : Addr) (xs : List Int32) (args : Array Value) (s : State) : Prop := args = #[.ref b] ∧ s.IntsAt b xs ∧ xs.length ≤ 2048 ∧ (Jvm.Cond.and given_1 narrow_1).before args s = true
/-- what a walk over the start with the record d0 says of its end, said of the start itself -/
theorem lw_closed {s t : State} {o : Outcome} {d0 : Drawn} {L : List Loc} {k n : Nat} (hd0 : s.drawn.sameBut d0 lw_cs) (hv : ∃ v, o = .returned v) (hW : (s.setDrawn d0).WarmedH t.vm) (hs : (s.setDrawn d0).sameButNew ({ t with vm := s.vm } : State) L k n) : State.butDraws s t lw_cs (fun t1 => Framed s o t1 L k n) := by
  have h2 : t.drawn = d0 := congrArg State.drawn hs.1
  refine ⟨⟨hv, hW, State.sameButNew.setDrawn hs s.drawn⟩, ?_, by decide⟩
  rw [h2]
  exact hd0
def lw_Q (_ : Array Value) (s : State) (o : Outcome) (t : State) : Prop := o = .returned (some (.int 1)) ∧ State.butDraws s t lw_cs (fun t1 => Framed s o t1 [] 601024 7293034)
def lw_Z (below : List Frame) (a : Array Value) (s : State) : State → Prop := fun t => ∃ o, t.status = .running ∧ Ended t below o ∧ lw_Q a s o t
/-- the law's own end, with 1 on the stack, nothing written that was there before, its room as the claim has it; d0: the record of draws at this point (at the entry s.drawn: begin with 'refine W.base ?_' and 'have hd0 := Drawn.sameBut.refl s.drawn lw_cs') -/
theorem lw_ret {p : Program} {l : Launch} {e : Env} {s : State} {m : MethodId} {below : List Frame} {meth : Method} {c : Code} {b : Nat} {d0 : Drawn} (hd0 : s.drawn.sameBut d0 lw_cs) (hx : p.tables.exec = Jvm.exec) (hb : c.code = code) (hr : meth.sig.returnType = ret) (hlocks : meth.locks = false) {pc : Nat} {H : Heap} {ls : Array Slot} (hdg : decode code pc = .ok (.ireturn, 1)) : W p l e room_1 (s.setDrawn d0) m #[Value.ref b] below meth c H [] 601024 7293034 (lw_Z below #[Value.ref b] s) (F0 m pc ls [.int 1]) := by
  intro T hT X
  obtain ⟨fs, hret, hrun, hended, hW, hframe⟩ := X.leave (v := some (.int 1)) (hlocks := hlocks) (fun h => by rw [hr] at h; cases h)
  have hmeth' : T.vm.method? m = some meth := X.method'
  refine ⟨T.setFrames fs, ?_, .returned (some (.int 1)), hrun, hended, rfl, lw_closed hd0 ⟨_, rfl⟩ hW hframe⟩
  jvm_step X.here [X.here.top, hx, hb, hdg, hmeth', hr, ret, narrow_b1]
  (try refine ⟨rfl, ?_⟩); (try refine ⟨rfl, ?_⟩)
  first | (intro acts; rw [hret _ acts rfl rfl rfl]) | rw [hret _ _ rfl rfl rfl]
  exact Steps.refl _
/-- what holds at the law's entry: the machine, the code, the tables' words (any of lw_tbl by 'hts w (by decide +kernel)'), the script of L ints xs at the cell b, what the Statement gives of the start (any of its parts by flat_of_before) -/
def lw_At (p : Program) (s : State) (m : MethodId) (meth : Method) (c : Code) (b L : Nat) (xs : Nat → Int32) : Prop :=
  p.tables.exec = Jvm.exec ∧ c.code = code ∧ meth.sig.returnType = ret ∧ c.maxLocals = 9 ∧ s.vm.findClass R_law = some m.cls ∧ (∀ w ∈ lw_tbl, w.before #[Value.ref b] s = true) ∧ va_X b L xs s s.heap ∧ b < s.heap.size ∧ meth.locks = false ∧ (Jvm.Cond.and given_1 narrow_1).before #[Value.ref b] s = true
theorem lp_gt {i L : Nat} (hi : i ≤ L) (hL : L ≤ 2048) : (nI L - nI 4 < nI i) ↔ ¬ i + 4 ≤ L := by
  have h1 : (nI L - nI 4).toInt = (L : Int) - 4 := by
    rw [Int32.toInt_sub, nI_toInt (by omega), nI_toInt (by omega)]
    rw [Int.bmod_eq_of_le (by omega) (by omega)]; rfl
  rw [Int32.lt_iff_toInt_lt, h1, nI_toInt (by omega)]; omega
set_option maxHeartbeats 4000000 in
set_option maxRecDepth 100000 in
theorem law_loop {p : Program} {l : Launch} {e : Env} {s : State} {m : MethodId} {below : List Frame} {meth : Method} {c : Code} {D : va_G} {cI cC cH cL : ClassId} {sb L : Nat} {xs : Nat → Int32} {y : Nat → Nat} {x b v u o h t a : Nat → Nat} {r : Nat} (C : LC p l s m c D (fun q : Nat => s.heap.size ≤ q) cI cC cH cL sb L xs y) (hr : meth.sig.returnType = ret) (hlocks : meth.locks = false) : ∀ (n i : Nat), i ≤ L → L < i + n → ∀ (H : Heap) (locs : List Loc) (ls : Array Slot), LI D (fun q : Nat => s.heap.size ≤ q) cI cC cH cL x b v u o h t a r H → va_S (fun q : Nat => s.heap.size ≤ q) s.heap H locs → lv_has ls 9 [(0, .ref sb), (1, .ref (x 0)), (2, .ref (a 0)), (3, .ref r), (4, .int (nI i))] → W p l e room_1 s m #[Value.ref sb] below meth c H locs (200 + i) (2500 + 6 * i) (lw_Z below #[Value.ref sb] s) (F0 m 23 ls []) := by
  intro n
  induction n with
  | zero => intro i h1 h2; omega
  | succ n ih =>
  intro i h1 h2 H locs ls I0 hS hl
  have C0 := C
  obtain ⟨hx, hb, hml, hown, hts, hXs, hbl, hbA, hst, hK, hXx, hF, hL⟩ := C0
  refine lv_iload hx hb dL_law_23 (lv_at hl 4 rfl) ?_
  refine lv_aload_n hx hb dL_law_25 rfl (lv_at hl 0 rfl) ?_
  refine va_slen hx hb hXs hbl hbA hS dL_law_26 ?_
  refine lv_iconst (v := nI 4) hx hb dL_law_27 (by decide) ?_
  refine lv_isub hx hb dL_law_28 ?_
  refine lv_icmp_gt (tgt := 1682) hx hb dL_law_29 (by decide) (fun _ => ?_) (fun hc => ?_)
  · refine lv_iconst (v := 1) hx hb dL_law_1682 (by decide) ?_
    refine va_forget (fun q hq => hS.2.2 q hq) ?_
    refine W.widen (k := 601024) (n := 7293034) (by omega) (by omega) ?_
    refine W.base ?_
    exact lw_ret (Drawn.sameBut.refl s.drawn lw_cs) hx hb hr hlocks dL_law_1683
  have hi : i + 4 ≤ L := Decidable.byContradiction (fun g => hc ((lp_gt h1 hL).mpr g))
  have nx : ∀ (H1 : Heap) (locs1 : List Loc) (ls1 : Array Slot), LI D (fun q : Nat => s.heap.size ≤ q) cI cC cH cL x b v u o h t a r H1 → va_S (fun q : Nat => s.heap.size ≤ q) s.heap H1 locs1 → lv_has ls1 9 [(0, .ref sb), (1, .ref (x 0)), (2, .ref (a 0)), (3, .ref r), (4, .int (nI i))] → W p l e room_1 s m #[Value.ref sb] below meth c H1 locs1 (204 + i) (2524 + 6 * i) (lw_Z below #[Value.ref sb] s) (F0 m 1676 ls1 []) := by
    intro H1 locs1 ls1 I1 S1 l1
    refine lv_iinc (v := nI (i + 4)) (lv' := [(4, .int (nI (i + 4))), (0, .ref sb), (1, .ref (x 0)), (2, .ref (a 0)), (3, .ref r)]) (k := 4) hx hb dL_law_1676 l1 rfl (kx_inc 4) (by decide) rfl (fun ls2 l2 => ?_)
    refine lv_goto (tgt := 23) hx hb dL_law_1679 (by decide) ?_
    have h9 := ih (i + 4) hi (by omega) H1 locs1 ls2 I1 S1 (lv_sub l2 [1, 2, 3, 4, 0] rfl)
    rw [show 200 + (i + 4) = 204 + i by omega, show 2500 + 6 * (i + 4) = 2524 + 6 * i by omega] at h9
    exact h9
  refine lv_aload_n hx hb dL_law_32 rfl (lv_at hl 0 rfl) ?_
  refine lv_iload hx hb dL_law_33 (lv_at hl 4 rfl) ?_
  refine va_sld hx hb hXs hbl hbA hS (vp_in_nI (show i < L by omega) (by omega)) dL_law_35 ?_
  refine kx_top (show xs (nI i).toNatClampNeg = xs i from by rw [nI_clamp (by omega)]) ?_
  refine lv_bipush (v := nI 31) hx hb dL_law_36 (by decide) ?_
  refine lv_iand hx hb dL_law_38 ?_
  obtain ⟨k, hk, ek⟩ := and31 (xs i)
  refine kx_top ek ?_
  clear ek hc
  rcases (show k = 0 ∨ k = 1 ∨ k = 2 ∨ k = 3 ∨ k = 4 ∨ k = 5 ∨ k = 6 ∨ k = 7 ∨ k = 8 ∨ k = 9 ∨ k = 10 ∨ k = 11 ∨ k = 12 ∨ k = 13 ∨ k = 14 ∨ k = 15 ∨ k = 16 ∨ k = 17 ∨ k = 18 ∨ k = 19 ∨ k = 20 ∨ k = 21 ∨ k = 22 ∨ k = 23 ∨ k = 24 ∨ k = 25 ∨ k = 26 ∨ k = 27 ∨ k = 28 ∨ k = 29 ∨ k = 30 ∨ k = 31 by omega) with rfl | rfl | rfl | rfl | rfl | rfl | rfl | rfl | rfl | rfl | rfl | rfl | rfl | rfl | rfl | rfl | rfl | rfl | rfl | rfl | rfl | rfl | rfl | rfl | rfl | rfl | rfl | rfl | rfl | rfl | rfl | rfl
  · refine lv_tableIn (tgt := 168) (off := 129) hx hb dL_law_39 (by decide) (by decide) (by decide) (by decide) ?_
    exact law_addRow C hi I0 hS hl nx
  · refine lv_tableIn (tgt := 248) (off := 209) hx hb dL_law_39 (by decide) (by decide) (by decide) (by decide) ?_
    exact law_removeRow C hi I0 hS hl nx
  · refine lv_tableIn (tgt := 304) (off := 265) hx hb dL_law_39 (by decide) (by decide) (by decide) (by decide) ?_
    exact law_lift C hi I0 hS hl nx
  · refine lv_tableIn (tgt := 372) (off := 333) hx hb dL_law_39 (by decide) (by decide) (by decide) (by decide) ?_
    exact law_addColumn C hi I0 hS hl nx
  · refine lv_tableIn (tgt := 452) (off := 413) hx hb dL_law_39 (by decide) (by decide) (by decide) (by decide) ?_
    exact law_removeColumn C hi I0 hS hl nx
  · refine lv_tableIn (tgt := 508) (off := 469) hx hb dL_law_39 (by decide) (by decide) (by decide) (by decide) ?_
    exact law_set C hi I0 hS hl nx
  · refine lv_tableIn (tgt := 576) (off := 537) hx hb dL_law_39 (by decide) (by decide) (by decide) (by decide) ?_
    exact law_take C hi I0 hS hl nx
  · refine lv_tableIn (tgt := 644) (off := 605) hx hb dL_law_39 (by decide) (by decide) (by decide) (by decide) ?_
    exact law_leave C hi I0 hS hl nx
  · refine lv_tableIn (tgt := 712) (off := 673) hx hb dL_law_39 (by decide) (by decide) (by decide) (by decide) ?_
    exact law_seatParty C hi I0 hS hl nx
  · refine lv_tableIn (tgt := 768) (off := 729) hx hb dL_law_39 (by decide) (by decide) (by decide) (by decide) ?_
    exact law_clear C hi I0 hS hl nx
  · refine lv_tableIn (tgt := 781) (off := 742) hx hb dL_law_39 (by decide) (by decide) (by decide) (by decide) ?_
    exact law_liftAll C hi I0 hS hl nx
  · refine lv_tableIn (tgt := 794) (off := 755) hx hb dL_law_39 (by decide) (by decide) (by decide) (by decide) ?_
    exact law_append C hi I0 hS hl nx
  · refine lv_tableIn (tgt := 850) (off := 811) hx hb dL_law_39 (by decide) (by decide) (by decide) (by decide) ?_
    exact law_clearBuffer C hi I0 hS hl nx
  · refine lv_tableIn (tgt := 863) (off := 824) hx hb dL_law_39 (by decide) (by decide) (by decide) (by decide) ?_
    exact law_firstError C hi I0 hS hl nx
  · refine lv_tableIn (tgt := 876) (off := 837) hx hb dL_law_39 (by decide) (by decide) (by decide) (by decide) ?_
    exact law_addAll C hi I0 hS hl nx
  · refine lv_tableIn (tgt := 920) (off := 881) hx hb dL_law_39 (by decide) (by decide) (by decide) (by decide) ?_
    exact law_undo C hi I0 hS hl nx
  · refine lv_tableIn (tgt := 964) (off := 925) hx hb dL_law_39 (by decide) (by decide) (by decide) (by decide) ?_
    exact law_row C hi I0 hS hl nx
  · refine lv_tableIn (tgt := 1032) (off := 993) hx hb dL_law_39 (by decide) (by decide) (by decide) (by decide) ?_
    exact law_seat C hi I0 hS hl nx
  · refine lv_tableIn (tgt := 1112) (off := 1073) hx hb dL_law_39 (by decide) (by decide) (by decide) (by decide) ?_
    exact law_column C hi I0 hS hl nx
  · refine lv_tableIn (tgt := 1180) (off := 1141) hx hb dL_law_39 (by decide) (by decide) (by decide) (by decide) ?_
    exact law_best C hi I0 hS hl nx
  · refine lv_tableIn (tgt := 1236) (off := 1197) hx hb dL_law_39 (by decide) (by decide) (by decide) (by decide) ?_
    exact law_whoBlocks C hi I0 hS hl nx
  · refine lv_tableIn (tgt := 1304) (off := 1265) hx hb dL_law_39 (by decide) (by decide) (by decide) (by decide) ?_
    exact law_count C hi I0 hS hl nx
  · refine lv_tableIn (tgt := 1360) (off := 1321) hx hb dL_law_39 (by decide) (by decide) (by decide) (by decide) ?_
    exact law_setting C hi I0 hS hl nx
  · refine lv_tableIn (tgt := 1416) (off := 1377) hx hb dL_law_39 (by decide) (by decide) (by decide) (by decide) ?_
    exact law_leastHeight C hi I0 hS hl nx
  · refine lv_tableIn (tgt := 1472) (off := 1433) hx hb dL_law_39 (by decide) (by decide) (by decide) (by decide) ?_
    exact law_ifLifted C hi I0 hS hl nx
  · refine lv_tableIn (tgt := 1540) (off := 1501) hx hb dL_law_39 (by decide) (by decide) (by decide) (by decide) ?_
    exact law_ifTaken C hi I0 hS hl nx
  · refine lv_tableIn (tgt := 1608) (off := 1569) hx hb dL_law_39 (by decide) (by decide) (by decide) (by decide) ?_
    exact law_worstColumn C hi I0 hS hl nx
  · refine lv_tableIn (tgt := 1621) (off := 1582) hx hb dL_law_39 (by decide) (by decide) (by decide) (by decide) ?_
    exact law_seeingShare C hi I0 hS hl nx
  · refine lv_tableIn (tgt := 1662) (off := 1623) hx hb dL_law_39 (by decide) (by decide) (by decide) (by decide) ?_
    exact law_digest C hi I0 hS hl nx
  · refine lv_tableOut (tgt := 1676) hx hb dL_law_39 (by decide) (by decide) ?_
    refine W.widen (k := 204 + i) (n := 2524 + 6 * i) (by omega) (by omega) ?_
    exact nx _ _ _ I0 hS hl
  · refine lv_tableOut (tgt := 1676) hx hb dL_law_39 (by decide) (by decide) ?_
    refine W.widen (k := 204 + i) (n := 2524 + 6 * i) (by omega) (by omega) ?_
    exact nx _ _ _ I0 hS hl
  · refine lv_tableOut (tgt := 1676) hx hb dL_law_39 (by decide) (by decide) ?_
    refine W.widen (k := 204 + i) (n := 2524 + 6 * i) (by omega) (by omega) ?_
    exact nx _ _ _ I0 hS hl
