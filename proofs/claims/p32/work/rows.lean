section
-- ===== PART A: goes FIRST, ahead of the names: the tables' words, and 'selects' of the private methods out of them =====
/-- a private method of a class that the tables say can be made, by its rows of tables_1 -/
def lw_okq (q : MethodName × Nat) : Prop := (q.1.cls ≠ "java/lang/invoke/MethodHandle" ∧ q.1.cls ≠ "java/lang/invoke/VarHandle") ∧ Cond.instantiable q.1.cls q.2 ∈ tables_1 ∧ Cond.privateMethod q.1 ∈ tables_1 ∧ Cond.instanceMethod q.1 ∈ tables_1
theorem lw_p0 : lw_okq (⟨"java/lang/Throwable", "fillInStackTrace", "(I)Ljava/lang/Throwable;"⟩, 6) := ⟨⟨by decide +kernel, by decide +kernel⟩, List.mem_of_getElem? (i := 203) (by decide +kernel), List.mem_of_getElem? (i := 201) (by decide +kernel), List.mem_of_getElem? (i := 202) (by decide +kernel)⟩
theorem lw_p1 : lw_okq (⟨"HallSights", "saveState", "()V"⟩, 5) := ⟨⟨by decide +kernel, by decide +kernel⟩, List.mem_of_getElem? (i := 16) (by decide +kernel), List.mem_of_getElem? (i := 258) (by decide +kernel), List.mem_of_getElem? (i := 259) (by decide +kernel)⟩
theorem lw_p2 : lw_okq (⟨"HallSights$History", "dropOldest", "()V"⟩, 2) := ⟨⟨by decide +kernel, by decide +kernel⟩, List.mem_of_getElem? (i := 98) (by decide +kernel), List.mem_of_getElem? (i := 266) (by decide +kernel), List.mem_of_getElem? (i := 267) (by decide +kernel)⟩
theorem lw_p3 : lw_okq (⟨"HallSights$Hall", "moveRow", "(II)V"⟩, 10) := ⟨⟨by decide +kernel, by decide +kernel⟩, List.mem_of_getElem? (i := 30) (by decide +kernel), List.mem_of_getElem? (i := 285) (by decide +kernel), List.mem_of_getElem? (i := 286) (by decide +kernel)⟩
theorem lw_p4 : lw_okq (⟨"HallSights", "checkRow", "(I)V"⟩, 5) := ⟨⟨by decide +kernel, by decide +kernel⟩, List.mem_of_getElem? (i := 16) (by decide +kernel), List.mem_of_getElem? (i := 293) (by decide +kernel), List.mem_of_getElem? (i := 294) (by decide +kernel)⟩
theorem lw_p5 : lw_okq (⟨"HallSights", "checkColumn", "(I)V"⟩, 5) := ⟨⟨by decide +kernel, by decide +kernel⟩, List.mem_of_getElem? (i := 16) (by decide +kernel), List.mem_of_getElem? (i := 328) (by decide +kernel), List.mem_of_getElem? (i := 329) (by decide +kernel)⟩
theorem lw_p6 : lw_okq (⟨"HallSights", "checkSeat", "(II)V"⟩, 5) := ⟨⟨by decide +kernel, by decide +kernel⟩, List.mem_of_getElem? (i := 16) (by decide +kernel), List.mem_of_getElem? (i := 372) (by decide +kernel), List.mem_of_getElem? (i := 373) (by decide +kernel)⟩
theorem lw_p7 : lw_okq (⟨"HallSights$Hall", "headOverPoint", "(I)I"⟩, 10) := ⟨⟨by decide +kernel, by decide +kernel⟩, List.mem_of_getElem? (i := 30) (by decide +kernel), List.mem_of_getElem? (i := 428) (by decide +kernel), List.mem_of_getElem? (i := 429) (by decide +kernel)⟩
theorem lw_p8 : lw_okq (⟨"HallSights$Hall", "eyeOverPoint", "(I)I"⟩, 10) := ⟨⟨by decide +kernel, by decide +kernel⟩, List.mem_of_getElem? (i := 30) (by decide +kernel), List.mem_of_getElem? (i := 432) (by decide +kernel), List.mem_of_getElem? (i := 433) (by decide +kernel)⟩
theorem lw_p9 : lw_okq (⟨"HallSights$Survey", "rankOf", "(II)I"⟩, 5) := ⟨⟨by decide +kernel, by decide +kernel⟩, List.mem_of_getElem? (i := 24) (by decide +kernel), List.mem_of_getElem? (i := 480) (by decide +kernel), List.mem_of_getElem? (i := 481) (by decide +kernel)⟩
theorem lw_p10 : lw_okq (⟨"HallSights$Survey", "allInWay", "(II)I"⟩, 5) := ⟨⟨by decide +kernel, by decide +kernel⟩, List.mem_of_getElem? (i := 24) (by decide +kernel), List.mem_of_getElem? (i := 484) (by decide +kernel), List.mem_of_getElem? (i := 485) (by decide +kernel)⟩
theorem lw_p11 : lw_okq (⟨"HallSights", "numberOf", "(I)I"⟩, 5) := ⟨⟨by decide +kernel, by decide +kernel⟩, List.mem_of_getElem? (i := 16) (by decide +kernel), List.mem_of_getElem? (i := 490) (by decide +kernel), List.mem_of_getElem? (i := 491) (by decide +kernel)⟩
theorem lw_p12 : lw_okq (⟨"HallSights$Survey", "allInWayOfParty", "(III)I"⟩, 5) := ⟨⟨by decide +kernel, by decide +kernel⟩, List.mem_of_getElem? (i := 24) (by decide +kernel), List.mem_of_getElem? (i := 531) (by decide +kernel), List.mem_of_getElem? (i := 532) (by decide +kernel)⟩
theorem lw_p13 : lw_okq (⟨"HallSights", "rowProperty", "(II)I"⟩, 5) := ⟨⟨by decide +kernel, by decide +kernel⟩, List.mem_of_getElem? (i := 16) (by decide +kernel), List.mem_of_getElem? (i := 547) (by decide +kernel), List.mem_of_getElem? (i := 548) (by decide +kernel)⟩
theorem lw_p14 : lw_okq (⟨"HallSights", "seatProperty", "(III)I"⟩, 5) := ⟨⟨by decide +kernel, by decide +kernel⟩, List.mem_of_getElem? (i := 16) (by decide +kernel), List.mem_of_getElem? (i := 557) (by decide +kernel), List.mem_of_getElem? (i := 558) (by decide +kernel)⟩
theorem lw_p15 : lw_okq (⟨"HallSights", "columnProperty", "(II)I"⟩, 5) := ⟨⟨by decide +kernel, by decide +kernel⟩, List.mem_of_getElem? (i := 16) (by decide +kernel), List.mem_of_getElem? (i := 576) (by decide +kernel), List.mem_of_getElem? (i := 577) (by decide +kernel)⟩
def lw_privs_1 : List (MethodName × Nat) := [(⟨"java/lang/Throwable", "fillInStackTrace", "(I)Ljava/lang/Throwable;"⟩, 6), (⟨"HallSights", "saveState", "()V"⟩, 5), (⟨"HallSights$History", "dropOldest", "()V"⟩, 2), (⟨"HallSights$Hall", "moveRow", "(II)V"⟩, 10), (⟨"HallSights", "checkRow", "(I)V"⟩, 5), (⟨"HallSights", "checkColumn", "(I)V"⟩, 5), (⟨"HallSights", "checkSeat", "(II)V"⟩, 5), (⟨"HallSights$Hall", "headOverPoint", "(I)I"⟩, 10), (⟨"HallSights$Hall", "eyeOverPoint", "(I)I"⟩, 10), (⟨"HallSights$Survey", "rankOf", "(II)I"⟩, 5), (⟨"HallSights$Survey", "allInWay", "(II)I"⟩, 5), (⟨"HallSights", "numberOf", "(I)I"⟩, 5), (⟨"HallSights$Survey", "allInWayOfParty", "(III)I"⟩, 5), (⟨"HallSights", "rowProperty", "(II)I"⟩, 5), (⟨"HallSights", "seatProperty", "(III)I"⟩, 5), (⟨"HallSights", "columnProperty", "(II)I"⟩, 5)]
theorem lw_r1 : ∀ q ∈ lw_privs_1, lw_okq q := List.forall_mem_cons.mpr ⟨lw_p0, List.forall_mem_cons.mpr ⟨lw_p1, List.forall_mem_cons.mpr ⟨lw_p2, List.forall_mem_cons.mpr ⟨lw_p3, List.forall_mem_cons.mpr ⟨lw_p4, List.forall_mem_cons.mpr ⟨lw_p5, List.forall_mem_cons.mpr ⟨lw_p6, List.forall_mem_cons.mpr ⟨lw_p7, List.forall_mem_cons.mpr ⟨lw_p8, List.forall_mem_cons.mpr ⟨lw_p9, List.forall_mem_cons.mpr ⟨lw_p10, List.forall_mem_cons.mpr ⟨lw_p11, List.forall_mem_cons.mpr ⟨lw_p12, List.forall_mem_cons.mpr ⟨lw_p13, List.forall_mem_cons.mpr ⟨lw_p14, List.forall_mem_cons.mpr ⟨lw_p15, fun _ h => absurd h List.not_mem_nil⟩⟩⟩⟩⟩⟩⟩⟩⟩⟩⟩⟩⟩⟩⟩⟩
def lw_privs : List (MethodName × Nat) := lw_privs_1
def lw_tbl : List Cond := k2_sels lw_privs ++ tables_1
theorem lw_privs_ok : ∀ q ∈ lw_privs, lw_okq q := lw_r1
-- ===== end of PART A; then your names; then what follows =====
end
section
/-! ===== BEGIN words of one list among another's, by their places ===== -/
theorem goodIn_r {big : List Cond} (ws : List Cond) (ps : List Nat) (hp : ws = ps.filterMap (fun i => big[i]?)) (h : ws.all goodWord = true) : GoodIn big ws := by
  intro w hw
  have h1 := List.all_eq_true.mp h w hw
  rw [hp] at hw
  obtain ⟨i, -, hi⟩ := List.mem_filterMap.mp hw
  have hm : w ∈ big := by first | exact List.mem_of_getElem? hi | exact List.getElem?_mem hi
  exact ⟨hm, good_of_word h1⟩
theorem goodIn_app {big a b : List Cond} (ha : GoodIn big a) (hb : GoodIn big b) : GoodIn big (a ++ b) := fun w h => (List.mem_append.mp h).elim (ha w) (hb w)
theorem goodIn_ca {big a b : List Cond} {c : Cond} (ha : GoodIn big (c :: a)) (hb : GoodIn big b) : GoodIn big (c :: (a ++ b)) := fun w h => (List.mem_cons.mp h).elim (fun e => ha w (List.mem_cons.mpr (Or.inl e))) (fun h => (List.mem_append.mp h).elim (fun h => ha w (List.mem_cons.mpr (Or.inr h))) (hb w))
theorem goodIn_sub {big ws : List Cond} (hm : ∀ w ∈ ws, w ∈ big) (h : ws.all goodWord = true) : GoodIn big ws := fun w hw => ⟨hm w hw, good_of_word (List.all_eq_true.mp h w hw)⟩
/-! ===== END ===== -/

/-! ===== BEGIN exceptions that leave a method, and their catching by the caller (launches without stack traces) ===== -/
section VXA
/-! The laws vx_back, vx_callV, vx_callS, vx_callSW, vx_throw0, vx_throwS follow proofs of the library, with one case more: JvmDerived/Free/Laws.lean (Back.of_free), Shelf42/LK1.lean (callV, callS), Shelf/KitTraced.lean (throwNew0V, throwNewS). -/
/-- where a method has thrown q: the class by its name, the cell, what was written, the world -/
def vx_T (XC : String → State → State → Prop) (st : State) (q : Addr) (t : State) (mc ms : Nat) (free : Addr → Prop) : Prop :=
  ∃ (E : String) (ce : Cell) (L : List Loc), XC E st t ∧ t.heap[q]? = some ce ∧ ce.vm = .none ∧ st.vm.findClass E = some ce.cls ∧ st.WarmedH t.vm ∧ st.sameButNew ({ t with vm := st.vm } : State) L mc ms ∧ ∀ z ∈ L, free z.base
def vx_Q (Qc : Array Value → State → Outcome → State → Prop) (XC : String → State → State → Prop) (mc ms : Nat) (free : Addr → Prop) : Array Value → State → Outcome → State → Prop := fun a st o t =>
  (Qc a st o t ∧ ∃ L, FrameEnd st o t L mc ms ∧ ∀ q ∈ L, free q.base) ∨ ∃ q, o = .threw q ∧ vx_T XC st q t mc ms free
/-- a callee that returns or throws -/
def vx_Met (l : Launch) (y : MethodName) (ws : List Cond) (rm : Room) (Pc : Array Value → State → Prop) (Qc : Array Value → State → Outcome → State → Prop) (XC : String → State → State → Prop) (mc ms : Nat) (free : Addr → Prop) : Prop :=
  MetFree l y (headSpec ws rm) Pc (fun _ _ _ _ _ => True) (vx_Q Qc XC mc ms free)
def vx_Post (XC : String → State → State → Prop) (mc ms : Nat) (free : Addr → Prop) : Pt → Array Value → Addr → Pt → Prop := fun A a q B =>
  ∃ (g : JFrame) (mk : MethodId) (t : State) (L : List Loc) (E : String) (ce : Cell), B.U.heap = t.heap ∧ B.U.vm = t.vm ∧ XC E (A.U.calling g mk a) t ∧ t.heap[q]? = some ce ∧ ce.vm = .none ∧ A.U.vm.findClass E = some ce.cls ∧ B.locs = A.locs ++ L ∧ (∀ z ∈ L, free z.base) ∧ B.cells = A.cells + mc ∧ B.slots = A.slots + ms
def vx_Back (l : Launch) (R : Room) (p : Program) (e : Env) (below : List Frame) (s : State) (sargs : Array Value) (y : MethodName) (len W9 : Nat)
    (Pre : Pt → Array Value → Prop) (Post : Pt → Array Value → Option Value → Pt → Prop) (PostX : Pt → Array Value → Addr → Pt → Prop) : Prop :=
  ∀ (m : MethodId) (meth : Method) (c : Code) (A : Pt) (g : JFrame) (ig : Instr) (mk : MethodId) (a : Array Value),
    Stand p l e R s m sargs below meth c A.U A.locs A.cells A.slots → g.method = m → g.locals.size = c.maxLocals → decode c.code g.pc = .ok (ig, len) →
    2 * g.monitorRoom + (g.stack.map fun v => v.category).sum ≤ W9 → A.U.methodNamed? y = some mk → Pre A a →
    (∃ (v : Option Value) (B : Pt), Stand p l e R s m sargs below meth c B.U B.locs B.cells B.slots ∧ Post A a v B ∧
      Steps p.tables e below (doInvoke e (A.U.setTop g) [] mk a).1 (B.U.setTop { g with pc := g.pc + len, stack := v.toList ++ g.stack })) ∨
    (∃ (q : Addr) (B : Pt), Stand p l e R s m sargs below meth c B.U B.locs B.cells B.slots ∧ PostX A a q B ∧
      Steps p.tables e below (doInvoke e (A.U.setTop g) [] mk a).1 ((B.U.setTop g).pushFrame (.throwing q)))
section Payer
variable {l : Launch} {R : Room} {p : Program} {e : Env} {below : List Frame} {s : State} {sargs : Array Value} {y : MethodName} {len W9 : Nat}
theorem vx_back {ws : List Cond} {rm : Room} {Pc : Array Value → State → Prop} {Qc : Array Value → State → Outcome → State → Prop} {XC : String → State → State → Prop} {mc ms : Nat} {free : Addr → Prop} {bytes : ByteArray} {maxL : Nat} {ret : Option FieldType}
    (hM : vx_Met l y ws rm Pc Qc XC mc ms free) (hblind : FrameBlind Pc) (hrc : rm.cells = mc) (hrs : rm.slots = ms)
    (hframes : rm.frames + 1 ≤ R.frames) (hlocals : W9 + (maxL + 11) + rm.locals ≤ R.locals)
    (hws : ∀ w ∈ ws, ∀ a' U, s.WarmedH U.vm → w.before a' U = true) (hcode : Cond.code y bytes maxL ret ∈ ws) (hinit : ∀ a' U, s.WarmedH U.vm → (Cond.initialized y.cls).before a' U = true) :
    vx_Back l R p e below s sargs y len W9 (PreOf R mc ms Pc) (PostOf Qc mc ms free) (vx_Post XC mc ms free) := by
  intro m meth c A g ig mk a X hg hsize hdg hW hn hp
  have h1 : (headSpec ws rm).pre.before a A.U = true := atoms_intro fun w hw => hws w hw _ _ X.warmed
  have h2 : (Cond.code y bytes maxL ret).before a A.U = true := hws _ hcode _ _ X.warmed
  have h3 : (Cond.initialized y.cls).before a A.U = true := hinit _ _ X.warmed
  have h4 : A.cells + (headSpec ws rm).room.cells ≤ R.cells := by rw [show (headSpec ws rm).room.cells = mc from hrc]; exact hp.1
  have h5 : A.slots + (headSpec ws rm).room.slots ≤ R.slots := by rw [show (headSpec ws rm).room.slots = ms from hrs]; exact hp.2.1
  have hPc : Pc a (A.U.calling g mk a) := hblind _ _ _ _ hp.2.2
  obtain ⟨U, Ls, c0, s0⟩ := A
  dsimp only [Pt.U, Pt.locs, Pt.cells, Pt.slots] at h1 h2 h3 h4 h5 X hn hPc ⊢
  obtain ⟨methY, cY, hmY, hcY, -, hlY, -, -, -, -⟩ := Cond.code_spec hn h2
  obtain ⟨kY, hkY, -⟩ := className_of_methodNamed hn
  have hinitY : kY.init = .initialized := Cond.initialized_spec (findClass_of_methodNamed hn) hkY h3
  have h : At U g.method c below := by rw [hg]; exact X.here
  have hlocals9 : W9 + (maxL + 11) + (headSpec ws rm).room.locals ≤ R.locals := hlocals
  have happ : (headSpec ws rm).appliesLoose y e.platform (U.calling g mk a) = true :=
    Spec.appliesLoose_calling (g := g) h hdg hn hkY hinitY
      (X.room_calling (g := g) (R' := (headSpec ws rm).room) hsize hmY hcY hframes (by rw [hlY]; omega) h4 h5) h1
  obtain ⟨mid, hmid⟩ := h.above
  have hfr : (U.setTop g).frames = (.java g :: mid) ++ below := by rw [State.frames_setTop' g h.top, hmid]; rfl
  obtain ⟨o, s₂, hsteps, -, hend, hq⟩ := Steps.callFree hM p X.admits X.cas X.clock (acts := []) hfr happ hPc trivial
  have hq' : vx_Q Qc XC mc ms free a (U.calling g mk a) o s₂ := hq
  rw [State.frames_setTop' g h.top] at hend
  obtain ⟨g₀, hg0⟩ := Option.isSome_iff_exists.mp h.top
  obtain ⟨r, hr⟩ := State.topJava?_eq_some.mp hg0
  have hr' : (({ U with heap := s₂.heap, slotsUsed := s₂.slotsUsed } : State).setVm s₂.vm).frames = .java g₀ :: r := hr
  rcases hq' with ⟨hqc, L, hfe, hL⟩ | ⟨q, rfl, E, ce, L, hx, hce, hcv, hcl, hW₂, hsm, hL⟩
  · obtain ⟨⟨v, rfl⟩, hW₂, e2, q2, q3, q4, q5, q6⟩ := id hfe
    have e3 : s₂ = ({ (U.calling g mk a).setFrames s₂.frames with heap := s₂.heap, slotsUsed := s₂.slotsUsed } : State).setVm s₂.vm := by
      have : s₂ = ({ s₂ with vm := (U.calling g mk a).vm } : State).setVm s₂.vm := rfl
      rw [e2] at this
      exact this
    obtain ⟨c₂, i₂, len₂, hc₂, hd₂, hf₂⟩ := hend
    have hW' : U.WarmedH s₂.vm := hW₂
    have hcc : c₂ = c := by
      have h1 : s₂.code? g.method = U.code? g.method := by
        rw [State.code?_eq, State.code?_eq, hW'.alike.method?]
      exact Option.some.inj (hc₂.symm.trans (h1.trans h.code))
    subst hcc
    have hlen : len₂ = len := by rw [hdg] at hd₂; cases hd₂; rfl
    subst hlen
    have hs₂ : s₂ = (({ U with heap := s₂.heap, slotsUsed := s₂.slotsUsed } : State).setVm s₂.vm).setTop { g with pc := g.pc + len₂, stack := v.toList ++ g.stack } := by
      refine e3.trans ?_
      rw [hf₂, State.calling_eq h.top, State.setFrames_setFrames, State.setTop_of_frames _ hr', hr]
      rfl
    have hsame : U.sameButNew ({ U with heap := s₂.heap, slotsUsed := s₂.slotsUsed } : State) L mc ms := by
      refine ⟨?_, q2, q3, q4, q5, q6⟩
      obtain ⟨t, ht, -⟩ := State.frames_cons hr
      show ({ U with heap := s₂.heap, slotsUsed := s₂.slotsUsed } : State) = { U.setFrames U.frames with heap := s₂.heap, slotsUsed := s₂.slotsUsed }
      rw [State.setFrames_self ht]
    subst hg
    refine Or.inl ⟨v, ⟨(({ U with heap := s₂.heap, slotsUsed := s₂.slotsUsed } : State).setVm s₂.vm), Ls ++ L, c0 + mc, s0 + ms⟩,
      ⟨X.admits, X.cas, X.clock, X.frames, X.room, X.hears, X.method, X.code, (X.here.setHeapUsed s₂.heap s₂.slotsUsed).setVm hW'.alike, X.tail, State.WarmedH.trans X.warmed hW', X.limits, X.bytes, X.same.trans (hsame.setVm s.vm)⟩,
      ⟨g, mk, s₂, L, rfl, rfl, hqc, rfl, hL, rfl, rfl⟩, ?_⟩
    show Steps p.tables e below _ ((({ U with heap := s₂.heap, slotsUsed := s₂.slotsUsed } : State).setVm s₂.vm).setTop { g with pc := g.pc + len₂, stack := v.toList ++ g.stack })
    rw [← hs₂]
    exact hsteps
  · obtain ⟨e2, q2, q3, q4, q5, q6⟩ := id hsm
    have e3 : s₂ = ({ (U.calling g mk a).setFrames s₂.frames with heap := s₂.heap, slotsUsed := s₂.slotsUsed } : State).setVm s₂.vm := by
      have : s₂ = ({ s₂ with vm := (U.calling g mk a).vm } : State).setVm s₂.vm := rfl
      rw [e2] at this
      exact this
    have hf₂ : s₂.frames = .throwing q :: .java g :: U.frames.tail := hend
    have hW' : U.WarmedH s₂.vm := hW₂
    have hs₂ : s₂ = ((({ U with heap := s₂.heap, slotsUsed := s₂.slotsUsed } : State).setVm s₂.vm).setTop g).pushFrame (.throwing q) := by
      refine e3.trans ?_
      rw [hf₂, State.calling_eq h.top, State.setFrames_setFrames, State.pushFrame, State.frames_setTop _ hr', State.setTop_of_frames _ hr', State.setFrames_setFrames, hr]
      rfl
    have hsame : U.sameButNew ({ U with heap := s₂.heap, slotsUsed := s₂.slotsUsed } : State) L mc ms := by
      refine ⟨?_, q2, q3, q4, q5, q6⟩
      obtain ⟨t, ht, -⟩ := State.frames_cons hr
      show ({ U with heap := s₂.heap, slotsUsed := s₂.slotsUsed } : State) = { U.setFrames U.frames with heap := s₂.heap, slotsUsed := s₂.slotsUsed }
      rw [State.setFrames_self ht]
    subst hg
    refine Or.inr ⟨q, ⟨(({ U with heap := s₂.heap, slotsUsed := s₂.slotsUsed } : State).setVm s₂.vm), Ls ++ L, c0 + mc, s0 + ms⟩,
      ⟨X.admits, X.cas, X.clock, X.frames, X.room, X.hears, X.method, X.code, (X.here.setHeapUsed s₂.heap s₂.slotsUsed).setVm hW'.alike, X.tail, State.WarmedH.trans X.warmed hW', X.limits, X.bytes, X.same.trans (hsame.setVm s.vm)⟩,
      ⟨g, mk, s₂, L, E, ce, rfl, rfl, hx, hce, hcv, hcl, rfl, hL, rfl, rfl⟩, ?_⟩
    show Steps p.tables e below _ (((({ U with heap := s₂.heap, slotsUsed := s₂.slotsUsed } : State).setVm s₂.vm).setTop g).pushFrame (.throwing q))
    rw [← hs₂]
    exact hsteps
end Payer
section Calls
variable {p : Program} {l : Launch} {e : Env} {R : Room} {s : State} {m : MethodId} {args : Array Value} {below : List Frame} {meth : Method} {c : Code} {T : State} {locs : List Loc} {cells slots : Nat}
theorem vx_callV (X : Stand p l e R s m args below meth c T locs cells slots) (hexec : p.tables.exec = Jvm.exec) {own C : String} {index : Nat} {y : MethodName} {bytes : ByteArray} {maxL : Nat} {ret : Option FieldType}
    (hown : s.vm.findClass own = some m.cls) (hlink : (Cond.methodLink own index y).before args s = true) (hinst : (Cond.instanceMethod y).before args s = true) (hsel : (Cond.selects C y y).before args s = true)
    (hcode : (Cond.code y bytes maxL ret).before args s = true) (hy : y.cls ≠ "java/lang/invoke/MethodHandle" ∧ y.cls ≠ "java/lang/invoke/VarHandle")
    {W9 : Nat} {Pre : Pt → Array Value → Prop} {Post : Pt → Array Value → Option Value → Pt → Prop} {PostX : Pt → Array Value → Addr → Pt → Prop} (hK : vx_Back l R p e below s args y 3 W9 Pre Post PostX)
    {b : Addr} {cellB : Cell} (hcell : T.heap[b]? = some cellB) (hobj : cellB.vm.isStatics = false) (hcls : s.vm.findClass C = some cellB.cls)
    {g : JFrame} (hg : g.method = m) (hsize : g.locals.size = c.maxLocals) {argsL rest : List Value} (hlen : ∀ sig, parseMethodDescriptor y.desc = some sig → argsL.length = sig.parameters.length)
    (hstack : g.stack = argsL.reverse ++ .ref b :: rest) (hW : 2 * g.monitorRoom + (rest.map fun v => v.category).sum ≤ W9) (hdg : decode c.code g.pc = .ok (.invokevirtual index, 3))
    (hpre : ∀ vm₁, s.WarmedH vm₁ → Pre ⟨T.setVm vm₁, locs, cells, slots⟩ (Value.ref b :: argsL).toArray) :
    (∃ (v : Option Value) (vm₁ : Vm) (B : Pt), s.WarmedH vm₁ ∧ Stand p l e R s m args below meth c B.U B.locs B.cells B.slots ∧ Post ⟨T.setVm vm₁, locs, cells, slots⟩ (Value.ref b :: argsL).toArray v B ∧
      ∀ target, Steps p.tables e below (B.U.setTop { g with pc := g.pc + 3, stack := v.toList ++ rest }) target → Steps p.tables e below (T.setTop g) target) ∨
    (∃ (q : Addr) (vm₁ : Vm) (B : Pt), s.WarmedH vm₁ ∧ Stand p l e R s m args below meth c B.U B.locs B.cells B.slots ∧ PostX ⟨T.setVm vm₁, locs, cells, slots⟩ (Value.ref b :: argsL).toArray q B ∧
      Steps p.tables e below (T.setTop g) ((B.U.setTop { g with stack := rest }).pushFrame (.throwing q))) := by
  obtain ⟨mk, methM, hnamed, hmethM, hstM, habM⟩ := Cond.instanceMethod_spec hinst
  obtain ⟨methM', cM, hmethM', -, -, -, -, -, -, hsigM⟩ := Cond.code_spec hnamed hcode
  cases hmethM.symm.trans hmethM'
  obtain ⟨c2, r2, m2, q1, q2, q3, q4, kP, hkP, hkPi⟩ := Cond.selects_spec hsel
  cases hcls.symm.trans q1
  cases (State.methodFound?_of_named hnamed hy).symm.trans q2
  cases hnamed.symm.trans q3
  have hselP : selectMethod e.platform s.vm cellB.cls mk = .method mk := by rw [Launch.admits_selectMethod X.admits]; exact q4
  obtain ⟨vm₁, X₁, hstep₁⟩ := X.invokevirtual hexec hown hlink hnamed hmethM hstM hkP hkPi hy (a := b) (cell := cellB) hcell
    (fun z h => by rw [h] at hobj; cases hobj) hselP hmethM habM hkP hkPi (g := g) hg (argsL := argsL) (rest := rest) (hlen _ hsigM) hstack hdg
  rcases hK m meth c ⟨T.setVm vm₁, locs, cells, slots⟩ { g with stack := rest } (.invokevirtual index) mk (Value.ref b :: argsL).toArray X₁ hg hsize hdg hW (X₁.named hnamed) (hpre vm₁ X₁.warmed) with ⟨v, B, X', hpost, hsteps⟩ | ⟨q, B, X', hpost, hsteps⟩
  · exact Or.inl ⟨v, vm₁, B, X₁.warmed, X', hpost, fun target h => hstep₁ _ fun acts => by rw [doInvoke_state]; exact hsteps.trans h⟩
  · exact Or.inr ⟨q, vm₁, B, X₁.warmed, X', hpost, hstep₁ _ fun acts => by rw [doInvoke_state]; exact hsteps⟩
theorem vx_callS (X : Stand p l e R s m args below meth c T locs cells slots) (hexec : p.tables.exec = Jvm.exec) {own : String} {index : Nat} {y : MethodName} {bytes : ByteArray} {maxL : Nat} {ret : Option FieldType}
    (hown : s.vm.findClass own = some m.cls) (hlink : (Cond.methodLink own index y).before args s = true) (hstat : (Cond.static y).before args s = true) (hinit : (Cond.initialized y.cls).before args s = true)
    (hcode : (Cond.code y bytes maxL ret).before args s = true) (hy : y.cls ≠ "java/lang/invoke/MethodHandle" ∧ y.cls ≠ "java/lang/invoke/VarHandle")
    {W9 : Nat} {Pre : Pt → Array Value → Prop} {Post : Pt → Array Value → Option Value → Pt → Prop} {PostX : Pt → Array Value → Addr → Pt → Prop} (hK : vx_Back l R p e below s args y 3 W9 Pre Post PostX)
    {g : JFrame} (hg : g.method = m) (hsize : g.locals.size = c.maxLocals) {argsL rest : List Value} (hlen : ∀ sig, parseMethodDescriptor y.desc = some sig → argsL.length = sig.parameters.length)
    (hstack : g.stack = argsL.reverse ++ rest) (hW : 2 * g.monitorRoom + (rest.map fun v => v.category).sum ≤ W9) (hdg : decode c.code g.pc = .ok (.invokestatic index, 3))
    (hpre : ∀ vm₁, s.WarmedH vm₁ → Pre ⟨T.setVm vm₁, locs, cells, slots⟩ argsL.toArray) :
    (∃ (v : Option Value) (vm₁ : Vm) (B : Pt), s.WarmedH vm₁ ∧ Stand p l e R s m args below meth c B.U B.locs B.cells B.slots ∧ Post ⟨T.setVm vm₁, locs, cells, slots⟩ argsL.toArray v B ∧
      ∀ target, Steps p.tables e below (B.U.setTop { g with pc := g.pc + 3, stack := v.toList ++ rest }) target → Steps p.tables e below (T.setTop g) target) ∨
    (∃ (q : Addr) (vm₁ : Vm) (B : Pt), s.WarmedH vm₁ ∧ Stand p l e R s m args below meth c B.U B.locs B.cells B.slots ∧ PostX ⟨T.setVm vm₁, locs, cells, slots⟩ argsL.toArray q B ∧
      Steps p.tables e below (T.setTop g) ((B.U.setTop { g with stack := rest }).pushFrame (.throwing q))) := by
  obtain ⟨mk, hnamed⟩ := Cond.code_named hcode
  obtain ⟨methM, cM, hmethM, -, -, -, -, -, -, hsigM⟩ := Cond.code_spec hnamed hcode
  have hstatic : methM.isStatic = true := Cond.static_spec hnamed hmethM hstat
  obtain ⟨kP, hkP, -⟩ := className_of_methodNamed hnamed
  have hinitP : kP.init = .initialized := Cond.initialized_spec (findClass_of_methodNamed hnamed) hkP hinit
  obtain ⟨vm₁, X₁, hstep₁⟩ := X.invokestatic hexec hown hlink hnamed hmethM hstatic hkP hinitP hy (g := g) hg (argsL := argsL) (rest := rest) (hlen _ hsigM) hstack hdg
  rcases hK m meth c ⟨T.setVm vm₁, locs, cells, slots⟩ { g with stack := rest } (.invokestatic index) mk argsL.toArray X₁ hg hsize hdg hW (X₁.named hnamed) (hpre vm₁ X₁.warmed) with ⟨v, B, X', hpost, hsteps⟩ | ⟨q, B, X', hpost, hsteps⟩
  · exact Or.inl ⟨v, vm₁, B, X₁.warmed, X', hpost, fun target h => hstep₁ _ fun acts => by rw [doInvoke_state]; exact hsteps.trans h⟩
  · exact Or.inr ⟨q, vm₁, B, X₁.warmed, X', hpost, hstep₁ _ fun acts => by rw [doInvoke_state]; exact hsteps⟩
end Calls
theorem vx_cls {s : State} {T : State} {vm₁ : Vm} {E : String} {k : ClassId} (hW : s.WarmedH vm₁) (h : (T.setVm vm₁).vm.findClass E = some k) : s.vm.findClass E = some k := by
  have h1 : vm₁.findClass E = some k := h
  rw [hW.alike.findClass] at h1
  exact h1
/-- the method's frame g, with q thrown over it -/
def vx_W (p : Program) (l : Launch) (e : Env) (R : Room) (s : State) (m : MethodId) (args : Array Value) (below : List Frame) (meth : Method) (c : Code) (H : Heap) (locs : List Loc) (cells slots : Nat) (Q : State → Prop) (g : JFrame) (q : Addr) : Prop :=
  ∀ T : State, T.heap = H → Stand p l e R s m args below meth c T locs cells slots → ∃ t, Steps p.tables e below ((T.setTop g).pushFrame (.throwing q)) t ∧ Q t
def vx_Run (p : Program) (l : Launch) (e : Env) (R : Room) (s : State) (m : MethodId) (args : Array Value) (below : List Frame) (meth : Method) (c : Code) (H : Heap) (locs : List Loc) (cells slots mc ms : Nat) (g : JFrame) (rest : List Value) (Qa : State → Outcome → State → Prop) (XC : String → State → State → Prop) (free : Addr → Prop) : Prop :=
  ∀ T : State, T.heap = H → Stand p l e R s m args below meth c T locs cells slots →
    (∃ (v : Option Value) (st₀ t T' : State) (L : List Loc), st₀.heap = H ∧ Stand p l e R s m args below meth c T' (locs ++ L) (cells + mc) (slots + ms) ∧ (∀ q ∈ L, free q.base) ∧ T'.heap = t.heap ∧ T'.vm = t.vm ∧ Qa st₀ (.returned v) t ∧
      Goes p e below T g T' { g with pc := g.pc + 3, stack := v.toList ++ rest }) ∨
    (∃ (q : Addr) (st₀ t T' : State) (L : List Loc) (E : String) (ce : Cell), st₀.heap = H ∧ Stand p l e R s m args below meth c T' (locs ++ L) (cells + mc) (slots + ms) ∧ (∀ z ∈ L, free z.base) ∧ T'.heap = t.heap ∧ T'.vm = t.vm ∧ XC E st₀ t ∧ t.heap[q]? = some ce ∧ ce.vm = .none ∧ s.vm.findClass E = some ce.cls ∧
      Steps p.tables e below (T.setTop g) ((T'.setTop { g with stack := rest }).pushFrame (.throwing q)))
def vx_X {S : Type} (px : S → Prop) (B : String → S → State → Prop) (A : Nat → Prop) : String → State → State → Prop := fun E st t => ∃ u : S, px u ∧ B E u t ∧ va_F A st t
section Runs
variable {p : Program} {l : Launch} {e : Env} {R : Room} {s : State} {m : MethodId} {args : Array Value} {below : List Frame} {meth : Method} {c : Code} {H : Heap} {locs : List Loc} {cells slots : Nat}
variable {y : MethodName} {bytes cc : ByteArray} {maxL nL mc ms n index : Nat} {ret : Option FieldType} {ws : List Cond} {rm : Room} {Pc : Array Value → State → Prop} {Qc : Array Value → State → Outcome → State → Prop} {XC : String → State → State → Prop} {free : Addr → Prop} {Ts : List Cond} {own C : String} {b : Addr} {As rest : List Value} {g : JFrame}
theorem vx_callBack (cb : CallB R s args own index y bytes maxL ret ws rm mc ms n) (hM : vx_Met l y ws rm Pc Qc XC mc ms free) (hbl : FrameBlind Pc) : vx_Back l R p e below s args y 3 8 (PreOf R mc ms Pc) (PostOf Qc mc ms free) (vx_Post XC mc ms free) := by
  obtain ⟨hrc, hrs, hfr, hlo, hws, hcw, -, hini, -⟩ := cb
  exact vx_back (bytes := bytes) (maxL := maxL) (ret := ret) hM hbl hrc hrs hfr hlo hws hcw (fun a' U hW => word_at hW (Or.inl (by first | rfl | simp [Cond.onTables, Cond.keeps, Cond.steady])) hini)
theorem vx_runV (S : CallFix p m c cc nL s args Ts own) (hM : vx_Met l y ws rm Pc Qc XC mc ms free) (cw : CallW R s args own C index y bytes maxL ret ws rm mc ms n) (hp : PreV s H C b Pc As)
    (hg : g.method = m) (hn : As.length = n) (hsize : g.locals.size = nL) (hstack : g.stack = As.reverse ++ .ref b :: rest) (hW : 2 * g.monitorRoom + (rest.map fun v => v.category).sum ≤ 8) (hdg : decode cc g.pc = .ok (.invokevirtual index, 3)) (hf : cells + mc ≤ R.cells ∧ slots + ms ≤ R.slots) :
    vx_Run p l e R s m args below meth c H locs cells slots mc ms g rest (Qc (Value.ref b :: As).toArray) XC free := by
  have hK : vx_Back l R p e below s args y 3 8 (PreOf R mc ms Pc) (PostOf Qc mc ms free) (vx_Post XC mc ms free) := vx_callBack cw.1 hM hp.1
  obtain ⟨⟨-, -, -, -, -, -, hcode, -, hy, hlen, hl⟩, hin, hse⟩ := cw
  obtain ⟨hx, hb, hml, ho, -⟩ := S
  obtain ⟨-, ⟨cellB, hcB, hoB, hclB⟩, hPc⟩ := hp
  intro T hT X
  rcases vx_callV X hx (C := C) (bytes := bytes) (maxL := maxL) (ret := ret) ho hl hin hse hcode hy hK (by rw [hT]; exact hcB) hoB hclB hg (hsize.trans hml.symm) (argsL := As) (rest := rest) (fun sig h => hn.trans (hlen sig h)) hstack hW (by rw [hb]; exact hdg)
    (fun vm₁ hW₁ => ⟨hf.1, hf.2, hPc (T.setVm vm₁) hT hW₁⟩) with ⟨v, vm₁, ⟨U', l2, c2, s2⟩, hW₁, X', ⟨g', mk, t, L, e1, e2, hq, h1, hL, h2, h3⟩, st⟩ | ⟨q, vm₁, ⟨U', l2, c2, s2⟩, hW₁, X', ⟨g', mk, t, L, E, ce, e1, e2, hq, hce, hcv, hcl, h1, hL, h2, h3⟩, st⟩
  · dsimp only [Pt.U, Pt.locs, Pt.cells, Pt.slots] at X' e1 e2 h1 h2 h3 st
    subst h1; subst h2; subst h3
    exact Or.inl ⟨v, (T.setVm vm₁).calling g' mk (Value.ref b :: As).toArray, t, U', L, hT, X', hL, e1, e2, hq, st⟩
  · dsimp only [Pt.U, Pt.locs, Pt.cells, Pt.slots] at X' e1 e2 h1 h2 h3 st hcl
    subst h1; subst h2; subst h3
    exact Or.inr ⟨q, (T.setVm vm₁).calling g' mk (Value.ref b :: As).toArray, t, U', L, E, ce, hT, X', hL, e1, e2, hq, hce, hcv, vx_cls hW₁ hcl, st⟩
theorem vx_runS (S : CallFix p m c cc nL s args Ts own) (hM : vx_Met l y ws rm Pc Qc XC mc ms free) (cw : CallB R s args own index y bytes maxL ret ws rm mc ms n ∧ (Cond.static y).before args s = true) (hp : PreS s H Pc As)
    (hg : g.method = m) (hn : As.length = n) (hsize : g.locals.size = nL) (hstack : g.stack = As.reverse ++ rest) (hW : 2 * g.monitorRoom + (rest.map fun v => v.category).sum ≤ 8) (hdg : decode cc g.pc = .ok (.invokestatic index, 3)) (hf : cells + mc ≤ R.cells ∧ slots + ms ≤ R.slots) :
    vx_Run p l e R s m args below meth c H locs cells slots mc ms g rest (Qc As.toArray) XC free := by
  have hK : vx_Back l R p e below s args y 3 8 (PreOf R mc ms Pc) (PostOf Qc mc ms free) (vx_Post XC mc ms free) := vx_callBack cw.1 hM hp.1
  obtain ⟨⟨-, -, -, -, -, -, hcode, hini, hy, hlen, hl⟩, hstt⟩ := cw
  obtain ⟨hx, hb, hml, ho, -⟩ := S
  intro T hT X
  rcases vx_callS X hx (bytes := bytes) (maxL := maxL) (ret := ret) ho hl hstt hini hcode hy hK hg (hsize.trans hml.symm) (argsL := As) (rest := rest) (fun sig h => hn.trans (hlen sig h)) hstack hW (by rw [hb]; exact hdg)
    (fun vm₁ hW₁ => ⟨hf.1, hf.2, hp.2 (T.setVm vm₁) hT hW₁⟩) with ⟨v, vm₁, ⟨U', l2, c2, s2⟩, hW₁, X', ⟨g', mk, t, L, e1, e2, hq, h1, hL, h2, h3⟩, st⟩ | ⟨q, vm₁, ⟨U', l2, c2, s2⟩, hW₁, X', ⟨g', mk, t, L, E, ce, e1, e2, hq, hce, hcv, hcl, h1, hL, h2, h3⟩, st⟩
  · dsimp only [Pt.U, Pt.locs, Pt.cells, Pt.slots] at X' e1 e2 h1 h2 h3 st
    subst h1; subst h2; subst h3
    exact Or.inl ⟨v, (T.setVm vm₁).calling g' mk As.toArray, t, U', L, hT, X', hL, e1, e2, hq, st⟩
  · dsimp only [Pt.U, Pt.locs, Pt.cells, Pt.slots] at X' e1 e2 h1 h2 h3 st hcl
    subst h1; subst h2; subst h3
    exact Or.inr ⟨q, (T.setVm vm₁).calling g' mk As.toArray, t, U', L, E, ce, hT, X', hL, e1, e2, hq, hce, hcv, vx_cls hW₁ hcl, st⟩
end Runs
section Rows
variable {p : Program} {l : Launch} {e : Env} {R : Room} {s : State} {m : MethodId} {args : Array Value} {below : List Frame} {meth : Method} {c : Code} {H : Heap} {locs : List Loc} {cells slots : Nat} {Q : State → Prop}
variable {mc ms : Nat} {free : Addr → Prop} {A0 A1 : Nat → Prop} {H0 : Heap} {a : Array Value} {pc : Nat} {ls : Array Slot} {st0 rest : List Value}
theorem vx_keep {st₀ t T' : State} {L : List Loc} (h0 : st₀.heap = H) (e1 : T'.heap = t.heap) (hS : va_S A0 H0 H locs) (hA : ∀ q, q < H.size → A1 q → A0 q) (hf : ∀ q, free q → A0 q) (hL : ∀ q ∈ L, free q.base) (hF : va_F A1 st₀ t) :
    H.size ≤ T'.heap.size ∧ (∀ q : Nat, q < H.size → ¬ A1 q → T'.heap[q]? = H[q]?) ∧ va_S A0 H0 T'.heap (locs ++ L) := by
  obtain ⟨hz, hk⟩ := hF
  rw [h0] at hz hk
  exact ⟨by rw [e1]; exact hz, fun q h1 h2 => by rw [e1]; exact hk q h1 h2,
    ⟨Nat.le_trans hS.1 (by rw [e1]; exact hz), fun q h1 h2 => by rw [e1, hk q (Nat.lt_of_lt_of_le h1 hS.1) (fun z => h2 (hA q (Nat.lt_of_lt_of_le h1 hS.1) z))]; exact hS.2.1 q h1 h2, fun q hq => by
      rcases List.mem_append.mp hq with h | h
      · exact hS.2.2 q h
      · exact hf _ (hL q h)⟩⟩
theorem vx_calli {S SX : Type} {post : Int32 → S → Prop} {px : SX → Prop} {B : S → State → Prop} {BX : String → SX → State → Prop} {AX : Nat → Prop} (hr : vx_Run p l e R s m args below meth c H locs cells slots mc ms (F0 m pc ls st0) rest (va_Qi post B A1 a) (vx_X px BX AX) free) (hS : va_S A0 H0 H locs) (hA : ∀ q, q < H.size → A1 q → A0 q) (hf : ∀ q, free q → A0 q) (hAX : ∀ q, q < H.size → AX q → A0 q)
    (kx : ∀ (E : String) (ce : Cell) (q9 : Addr) (u : SX) (t : State) (H1 : Heap) (locs1 : List Loc), t.heap = H1 → s.vm.Alike t.vm → px u → BX E u t → H.size ≤ H1.size → (∀ q : Nat, q < H.size → ¬ AX q → H1[q]? = H[q]?) → va_S A0 H0 H1 locs1 → H1[q9]? = some ce → ce.vm = .none → s.vm.findClass E = some ce.cls → vx_W p l e R s m args below meth c H1 locs1 (cells + mc) (slots + ms) Q (F0 m pc ls rest) q9)
    (kk : ∀ (r : Int32) (u : S) (t : State) (H1 : Heap) (locs1 : List Loc), t.heap = H1 → s.vm.Alike t.vm → post r u → B u t → H.size ≤ H1.size → (∀ q : Nat, q < H.size → ¬ A1 q → H1[q]? = H[q]?) → va_S A0 H0 H1 locs1 → W p l e R s m args below meth c H1 locs1 (cells + mc) (slots + ms) Q (F0 m (pc + 3) ls (.int r :: rest))) : W p l e R s m args below meth c H locs cells slots Q (F0 m pc ls st0) := by
  intro T hT X
  rcases hr T hT X with ⟨v, st₀, t, T', L, h0, X', hL, e1, e2, ⟨⟨r, u, hv, hp, hb⟩, hF⟩, st⟩ | ⟨q, st₀, t, T', L, E, ce, h0, X', hL, e1, e2, ⟨u, hp, hb, hF⟩, hce, hcv, hcl, st⟩
  · cases hv
    obtain ⟨k1, k2, k3⟩ := vx_keep h0 e1 hS hA hf hL hF
    obtain ⟨t2, a1, b1⟩ := kk r u t T'.heap (locs ++ L) e1.symm (by rw [← e2]; exact X'.warmed.alike) hp hb k1 k2 k3 T' rfl X'
    exact ⟨t2, st t2 a1, b1⟩
  · obtain ⟨k1, k2, k3⟩ := vx_keep h0 e1 hS hAX hf hL hF
    obtain ⟨t2, a1, b1⟩ := kx E ce q u t T'.heap (locs ++ L) e1.symm (by rw [← e2]; exact X'.warmed.alike) hp hb k1 k2 k3 (by rw [e1]; exact hce) hcv hcl T' rfl X'
    exact ⟨t2, st.trans a1, b1⟩
theorem vx_calll {S SX : Type} {post : Int64 → S → Prop} {px : SX → Prop} {B : S → State → Prop} {BX : String → SX → State → Prop} {AX : Nat → Prop} (hr : vx_Run p l e R s m args below meth c H locs cells slots mc ms (F0 m pc ls st0) rest (va_Ql post B A1 a) (vx_X px BX AX) free) (hS : va_S A0 H0 H locs) (hA : ∀ q, q < H.size → A1 q → A0 q) (hf : ∀ q, free q → A0 q) (hAX : ∀ q, q < H.size → AX q → A0 q)
    (kx : ∀ (E : String) (ce : Cell) (q9 : Addr) (u : SX) (t : State) (H1 : Heap) (locs1 : List Loc), t.heap = H1 → s.vm.Alike t.vm → px u → BX E u t → H.size ≤ H1.size → (∀ q : Nat, q < H.size → ¬ AX q → H1[q]? = H[q]?) → va_S A0 H0 H1 locs1 → H1[q9]? = some ce → ce.vm = .none → s.vm.findClass E = some ce.cls → vx_W p l e R s m args below meth c H1 locs1 (cells + mc) (slots + ms) Q (F0 m pc ls rest) q9)
    (kk : ∀ (r : Int64) (u : S) (t : State) (H1 : Heap) (locs1 : List Loc), t.heap = H1 → s.vm.Alike t.vm → post r u → B u t → H.size ≤ H1.size → (∀ q : Nat, q < H.size → ¬ A1 q → H1[q]? = H[q]?) → va_S A0 H0 H1 locs1 → W p l e R s m args below meth c H1 locs1 (cells + mc) (slots + ms) Q (F0 m (pc + 3) ls (.long r :: rest))) : W p l e R s m args below meth c H locs cells slots Q (F0 m pc ls st0) := by
  intro T hT X
  rcases hr T hT X with ⟨v, st₀, t, T', L, h0, X', hL, e1, e2, ⟨⟨r, u, hv, hp, hb⟩, hF⟩, st⟩ | ⟨q, st₀, t, T', L, E, ce, h0, X', hL, e1, e2, ⟨u, hp, hb, hF⟩, hce, hcv, hcl, st⟩
  · cases hv
    obtain ⟨k1, k2, k3⟩ := vx_keep h0 e1 hS hA hf hL hF
    obtain ⟨t2, a1, b1⟩ := kk r u t T'.heap (locs ++ L) e1.symm (by rw [← e2]; exact X'.warmed.alike) hp hb k1 k2 k3 T' rfl X'
    exact ⟨t2, st t2 a1, b1⟩
  · obtain ⟨k1, k2, k3⟩ := vx_keep h0 e1 hS hAX hf hL hF
    obtain ⟨t2, a1, b1⟩ := kx E ce q u t T'.heap (locs ++ L) e1.symm (by rw [← e2]; exact X'.warmed.alike) hp hb k1 k2 k3 (by rw [e1]; exact hce) hcv hcl T' rfl X'
    exact ⟨t2, st.trans a1, b1⟩
theorem vx_callf {S SX : Type} {post : UInt32 → S → Prop} {px : SX → Prop} {B : S → State → Prop} {BX : String → SX → State → Prop} {AX : Nat → Prop} (hr : vx_Run p l e R s m args below meth c H locs cells slots mc ms (F0 m pc ls st0) rest (va_Qf post B A1 a) (vx_X px BX AX) free) (hS : va_S A0 H0 H locs) (hA : ∀ q, q < H.size → A1 q → A0 q) (hf : ∀ q, free q → A0 q) (hAX : ∀ q, q < H.size → AX q → A0 q)
    (kx : ∀ (E : String) (ce : Cell) (q9 : Addr) (u : SX) (t : State) (H1 : Heap) (locs1 : List Loc), t.heap = H1 → s.vm.Alike t.vm → px u → BX E u t → H.size ≤ H1.size → (∀ q : Nat, q < H.size → ¬ AX q → H1[q]? = H[q]?) → va_S A0 H0 H1 locs1 → H1[q9]? = some ce → ce.vm = .none → s.vm.findClass E = some ce.cls → vx_W p l e R s m args below meth c H1 locs1 (cells + mc) (slots + ms) Q (F0 m pc ls rest) q9)
    (kk : ∀ (r : UInt32) (u : S) (t : State) (H1 : Heap) (locs1 : List Loc), t.heap = H1 → s.vm.Alike t.vm → post r u → B u t → H.size ≤ H1.size → (∀ q : Nat, q < H.size → ¬ A1 q → H1[q]? = H[q]?) → va_S A0 H0 H1 locs1 → W p l e R s m args below meth c H1 locs1 (cells + mc) (slots + ms) Q (F0 m (pc + 3) ls (.float r :: rest))) : W p l e R s m args below meth c H locs cells slots Q (F0 m pc ls st0) := by
  intro T hT X
  rcases hr T hT X with ⟨v, st₀, t, T', L, h0, X', hL, e1, e2, ⟨⟨r, u, hv, hp, hb⟩, hF⟩, st⟩ | ⟨q, st₀, t, T', L, E, ce, h0, X', hL, e1, e2, ⟨u, hp, hb, hF⟩, hce, hcv, hcl, st⟩
  · cases hv
    obtain ⟨k1, k2, k3⟩ := vx_keep h0 e1 hS hA hf hL hF
    obtain ⟨t2, a1, b1⟩ := kk r u t T'.heap (locs ++ L) e1.symm (by rw [← e2]; exact X'.warmed.alike) hp hb k1 k2 k3 T' rfl X'
    exact ⟨t2, st t2 a1, b1⟩
  · obtain ⟨k1, k2, k3⟩ := vx_keep h0 e1 hS hAX hf hL hF
    obtain ⟨t2, a1, b1⟩ := kx E ce q u t T'.heap (locs ++ L) e1.symm (by rw [← e2]; exact X'.warmed.alike) hp hb k1 k2 k3 (by rw [e1]; exact hce) hcv hcl T' rfl X'
    exact ⟨t2, st.trans a1, b1⟩
theorem vx_calld {S SX : Type} {post : UInt64 → S → Prop} {px : SX → Prop} {B : S → State → Prop} {BX : String → SX → State → Prop} {AX : Nat → Prop} (hr : vx_Run p l e R s m args below meth c H locs cells slots mc ms (F0 m pc ls st0) rest (va_Qd post B A1 a) (vx_X px BX AX) free) (hS : va_S A0 H0 H locs) (hA : ∀ q, q < H.size → A1 q → A0 q) (hf : ∀ q, free q → A0 q) (hAX : ∀ q, q < H.size → AX q → A0 q)
    (kx : ∀ (E : String) (ce : Cell) (q9 : Addr) (u : SX) (t : State) (H1 : Heap) (locs1 : List Loc), t.heap = H1 → s.vm.Alike t.vm → px u → BX E u t → H.size ≤ H1.size → (∀ q : Nat, q < H.size → ¬ AX q → H1[q]? = H[q]?) → va_S A0 H0 H1 locs1 → H1[q9]? = some ce → ce.vm = .none → s.vm.findClass E = some ce.cls → vx_W p l e R s m args below meth c H1 locs1 (cells + mc) (slots + ms) Q (F0 m pc ls rest) q9)
    (kk : ∀ (r : UInt64) (u : S) (t : State) (H1 : Heap) (locs1 : List Loc), t.heap = H1 → s.vm.Alike t.vm → post r u → B u t → H.size ≤ H1.size → (∀ q : Nat, q < H.size → ¬ A1 q → H1[q]? = H[q]?) → va_S A0 H0 H1 locs1 → W p l e R s m args below meth c H1 locs1 (cells + mc) (slots + ms) Q (F0 m (pc + 3) ls (.double r :: rest))) : W p l e R s m args below meth c H locs cells slots Q (F0 m pc ls st0) := by
  intro T hT X
  rcases hr T hT X with ⟨v, st₀, t, T', L, h0, X', hL, e1, e2, ⟨⟨r, u, hv, hp, hb⟩, hF⟩, st⟩ | ⟨q, st₀, t, T', L, E, ce, h0, X', hL, e1, e2, ⟨u, hp, hb, hF⟩, hce, hcv, hcl, st⟩
  · cases hv
    obtain ⟨k1, k2, k3⟩ := vx_keep h0 e1 hS hA hf hL hF
    obtain ⟨t2, a1, b1⟩ := kk r u t T'.heap (locs ++ L) e1.symm (by rw [← e2]; exact X'.warmed.alike) hp hb k1 k2 k3 T' rfl X'
    exact ⟨t2, st t2 a1, b1⟩
  · obtain ⟨k1, k2, k3⟩ := vx_keep h0 e1 hS hAX hf hL hF
    obtain ⟨t2, a1, b1⟩ := kx E ce q u t T'.heap (locs ++ L) e1.symm (by rw [← e2]; exact X'.warmed.alike) hp hb k1 k2 k3 (by rw [e1]; exact hce) hcv hcl T' rfl X'
    exact ⟨t2, st.trans a1, b1⟩
theorem vx_callv {S SX : Type} {post : S → Prop} {px : SX → Prop} {B : S → State → Prop} {BX : String → SX → State → Prop} {AX : Nat → Prop} (hr : vx_Run p l e R s m args below meth c H locs cells slots mc ms (F0 m pc ls st0) rest (va_Qv post B A1 a) (vx_X px BX AX) free) (hS : va_S A0 H0 H locs) (hA : ∀ q, q < H.size → A1 q → A0 q) (hf : ∀ q, free q → A0 q) (hAX : ∀ q, q < H.size → AX q → A0 q)
    (kx : ∀ (E : String) (ce : Cell) (q9 : Addr) (u : SX) (t : State) (H1 : Heap) (locs1 : List Loc), t.heap = H1 → s.vm.Alike t.vm → px u → BX E u t → H.size ≤ H1.size → (∀ q : Nat, q < H.size → ¬ AX q → H1[q]? = H[q]?) → va_S A0 H0 H1 locs1 → H1[q9]? = some ce → ce.vm = .none → s.vm.findClass E = some ce.cls → vx_W p l e R s m args below meth c H1 locs1 (cells + mc) (slots + ms) Q (F0 m pc ls rest) q9)
    (kk : ∀ (u : S) (t : State) (H1 : Heap) (locs1 : List Loc), t.heap = H1 → s.vm.Alike t.vm → post u → B u t → H.size ≤ H1.size → (∀ q : Nat, q < H.size → ¬ A1 q → H1[q]? = H[q]?) → va_S A0 H0 H1 locs1 → W p l e R s m args below meth c H1 locs1 (cells + mc) (slots + ms) Q (F0 m (pc + 3) ls (rest))) : W p l e R s m args below meth c H locs cells slots Q (F0 m pc ls st0) := by
  intro T hT X
  rcases hr T hT X with ⟨v, st₀, t, T', L, h0, X', hL, e1, e2, ⟨⟨u, hv, hp, hb⟩, hF⟩, st⟩ | ⟨q, st₀, t, T', L, E, ce, h0, X', hL, e1, e2, ⟨u, hp, hb, hF⟩, hce, hcv, hcl, st⟩
  · cases hv
    obtain ⟨k1, k2, k3⟩ := vx_keep h0 e1 hS hA hf hL hF
    obtain ⟨t2, a1, b1⟩ := kk u t T'.heap (locs ++ L) e1.symm (by rw [← e2]; exact X'.warmed.alike) hp hb k1 k2 k3 T' rfl X'
    exact ⟨t2, st t2 a1, b1⟩
  · obtain ⟨k1, k2, k3⟩ := vx_keep h0 e1 hS hAX hf hL hF
    obtain ⟨t2, a1, b1⟩ := kx E ce q u t T'.heap (locs ++ L) e1.symm (by rw [← e2]; exact X'.warmed.alike) hp hb k1 k2 k3 (by rw [e1]; exact hce) hcv hcl T' rfl X'
    exact ⟨t2, st.trans a1, b1⟩
/-- caught by the row x of this method's table; the rows ahead don't take it -/
theorem vx_catch {own name : String} {E : String} {ce : Cell} {q : Addr} (hown : s.vm.findClass own = some m.cls) (pre : List ExceptionTableEntry) (x : ExceptionTableEntry) (suf : List ExceptionTableEntry) (hsplit : c.exceptionTable.toList = pre ++ x :: suf)
    (hpass : ∀ z ∈ pre, covers z pc = false ∨ (z.catchType ≠ 0 ∧ ∃ nm : String, (Cond.classLink own z.catchType nm).before args s = true ∧ va_Nc E nm s)) (hx : covers x pc = true) (h0 : x.catchType ≠ 0)
    (hlink : (Cond.classLink own x.catchType name).before args s = true) (hcast : (Cond.castable E name).before args s = true) (hcell : H[q]? = some ce) (hv : ce.vm = .none) (hcl : s.vm.findClass E = some ce.cls)
    (kk : W p l e R s m args below meth c H locs cells slots Q (F0 m x.handlerPc ls [.ref q])) : vx_W p l e R s m args below meth c H locs cells slots Q (F0 m pc ls rest) q := by
  intro T hT X
  have hpl : e.platform.magicAccessors = ({} : Platform).magicAccessors := by rw [X.admits.platform]
  obtain ⟨c3, c4, hc3, hc4, hasg⟩ := Cond.castable_spec hcast
  cases Option.some.inj (hc3.symm.trans hcl)
  obtain ⟨c5, hc5, hcl5⟩ := Cond.classLink_spec hown hlink e.platform hpl
  cases Option.some.inj (hc4.symm.trans hc5)
  obtain ⟨vm', X', st⟩ := X.thenCaughtThrough q (g := F0 m pc ls rest) rfl (Steps.refl _) (by rw [hT]; exact hcell) (by rw [hv]; rfl) (by obtain ⟨k9, h9, -⟩ := Vm.findClass_spec hcl; exact ⟨k9, h9⟩) pre x suf hsplit
    (fun z hz => by
      rcases hpass z hz with h | ⟨hz0, nm, hl1, hn1⟩
      · exact Or.inl h
      · obtain ⟨c6, hc6, hcl6⟩ := Cond.classLink_spec hown hl1 e.platform hpl
        obtain ⟨a8, b8, h1, h2, h3⟩ := hn1
        cases Option.some.inj (h1.symm.trans hcl)
        cases Option.some.inj (h2.symm.trans hc6)
        exact Or.inr ⟨hz0, _, hcl6, h3⟩) hx (Or.inr ⟨h0, c4, hcl5, hasg⟩)
  obtain ⟨t, a1, b1⟩ := kk (T.setVm vm') hT X'
  exact ⟨t, st.trans a1, b1⟩
end Rows
section Ends
variable {p : Program} {l : Launch} {e : Env} {R : Room} {s : State} {m : MethodId} {args : Array Value} {below : List Frame} {meth : Method} {c : Code} {H : Heap} {locs : List Loc} {cells slots : Nat} {Q : State → Prop}
variable {mc ms : Nat} {free : Addr → Prop} {A0 A1 : Nat → Prop} {H0 : Heap} {a : Array Value} {ls : Array Slot} {st0 rest : List Value}
variable {Qc : Array Value → State → Outcome → State → Prop} {XC : String → State → State → Prop}
/-- what a body that may throw owes at its end -/
def vx_MQ (below : List Frame) (Qc : Array Value → State → Outcome → State → Prop) (XC : String → State → State → Prop) (a : Array Value) (s : State) (mc ms : Nat) (free : Addr → Prop) : State → Prop := fun t =>
  ∃ o, t.status = .running ∧ Ended t below o ∧ vx_Q Qc XC mc ms free a s o t
theorem vx_ret {g : JFrame} {mc ms : Nat} (k : W p l e R s m args below meth c H locs cells slots (MQ below Qc args s mc ms free) g) : W p l e R s m args below meth c H locs cells slots (vx_MQ below Qc XC args s mc ms free) g := by
  intro T hT X
  obtain ⟨t, a1, o, b1, b2, b3, b4⟩ := k T hT X
  exact ⟨t, a1, o, b1, b2, Or.inl ⟨b3, b4⟩⟩
/-- not caught here: it goes on to the caller -/
theorem vx_widen {g : JFrame} {q : Addr} {k n : Nat} (h1 : cells ≤ k) (h2 : slots ≤ n) (kk : vx_W p l e R s m args below meth c H locs k n Q g q) : vx_W p l e R s m args below meth c H locs cells slots Q g q := fun T hT X => kk T hT (stand_widen X h1 h2)
theorem vx_out {pc : Nat} {E : String} {ce : Cell} {q : Addr} {mc ms : Nat} (hout : ∀ x ∈ c.exceptionTable.toList, covers x pc = false) (hlocks : meth.locks = false) (hcell : H[q]? = some ce) (hv : ce.vm = .none) (hcl : s.vm.findClass E = some ce.cls)
    (hx : ∀ t : State, t.heap = H → s.vm.Alike t.vm → XC E s t) (hf : ∀ z ∈ locs, free z.base) (hc : cells ≤ mc) (hs : slots ≤ ms) :
    vx_W p l e R s m args below meth c H locs cells slots (vx_MQ below Qc XC args s mc ms free) (F0 m pc ls rest) q := by
  intro T hT X
  obtain ⟨st1, hrun, hend, hW, hsm⟩ := X.leaveThrown q (g := F0 m pc ls rest) rfl rfl rfl hout hlocks
  have hcell9 : (T.setFrames (.throwing q :: below)).heap[q]? = some ce := by
    show T.heap[q]? = some ce
    rw [hT]; exact hcell
  exact ⟨_, st1, .threw q, hrun, hend, Or.inr ⟨q, rfl, E, ce, locs, hx _ hT hW.alike, hcell9, hv, hcl, hW, hsm.mono hc hs, hf⟩⟩
theorem vx_frame {U : State} {k n : Nat} (h : s.sameButNew ({ U with vm := s.vm } : State) locs k n) : s.heap.size ≤ U.heap.size ∧ ∀ q : Nat, q < s.heap.size → (∀ z ∈ locs, z.base ≠ q) → U.heap[q]? = s.heap[q]? := by
  obtain ⟨-, h2, -, -, -, h6⟩ := h
  refine ⟨h2, fun q hq hz => ?_⟩
  obtain ⟨c9, e1, e2, e3, e4⟩ := h6 q _ (Array.getElem?_eq_getElem hq)
  have hs : c9.slots = (s.heap[q]).slots := Array.ext_getElem? fun i => e4 i fun hm => hz _ hm rfl
  have h9 : c9 = s.heap[q] := by
    rw [hs] at e2
    exact e2
  have e5 : U.heap[q]? = some c9 := e1
  rw [e5, h9, Array.getElem?_eq_getElem hq]
/-- the words of a throw but the four that speak of the heap -/
def vx_no (w : Cond) : Bool := decide (w ≠ .isRef (.static Bundle.tN "UNASSIGNED_STACK" Bundle.steD)) && decide (w ≠ .isRef (.static Bundle.tN "SUPPRESSED_SENTINEL" Bundle.listD)) && decide (w ≠ .laysStatic Bundle.tN "UNASSIGNED_STACK" Bundle.steD) && decide (w ≠ .laysStatic Bundle.tN "SUPPRESSED_SENTINEL" Bundle.listD)
def vx_at0 (own : String) (ic : Nat) (X : String) (names : List String) : List Cond := (Bundle.ownAtoms0 own ic X names).filter vx_no
def vx_atS (own : String) (ic : Nat) (X : String) (names : List String) : List Cond := (Bundle.ownAtoms own ic X names).filter vx_no
/-- a word that the tables alone decide, or a good one -/
def vx_ot (w : Cond) : Bool := w.onTables || goodWord w
theorem vx_ot_at {args a' : Array Value} {s U : State} {w : Cond} (hW : s.WarmedH U.vm) (hvm : s.vm = U.vm) (hg : vx_ot w = true) (h : w.before args s = true) : w.before a' U = true := by
  simp only [vx_ot, Bool.or_eq_true] at hg
  rcases hg with hg | hg
  · exact va_tabs hg hvm h
  · exact word_at hW (good_of_word hg) h
/-- a list's words: the good ones out of the method's own list, the others by premises of their own -/
theorem vx_hat {args : Array Value} {s : State} {L B : List Cond} (h1 : ∀ w ∈ L.filter goodWord, w.before args s = true) (h2 : ∀ w ∈ L.filter (fun w => !goodWord w), w ∈ B) (h3 : ∀ w ∈ B, w.before args s = true) : ∀ w ∈ L, w.before args s = true := by
  intro w hw
  by_cases g : goodWord w = true
  · exact h1 w (List.mem_filter.mpr ⟨hw, g⟩)
  · refine h3 w (h2 w (List.mem_filter.mpr ⟨hw, ?_⟩))
    show (!goodWord w) = true
    cases hgw : goodWord w
    · rfl
    · exact absurd hgw g
theorem vx_c {args : Array Value} {s : State} {w : Cond} {B : List Cond} (h : w.before args s = true) (t : ∀ w ∈ B, w.before args s = true) : ∀ w' ∈ w :: B, w'.before args s = true := fun w' h' => (List.mem_cons.mp h').elim (fun e => by rw [e]; exact h) (t w')
theorem vx_n {args : Array Value} {s : State} : ∀ w ∈ ([] : List Cond), w.before args s = true := fun _ h => nomatch h
theorem vx_own {args : Array Value} {s : State} {L : List Cond} (h1 : ∀ w ∈ L.filter vx_no, w.before args s = true)
    (hU : (Cond.isRef (.static Bundle.tN "UNASSIGNED_STACK" Bundle.steD)).before args s = true) (hN : (Cond.isRef (.static Bundle.tN "SUPPRESSED_SENTINEL" Bundle.listD)).before args s = true)
    (lU : (Cond.laysStatic Bundle.tN "UNASSIGNED_STACK" Bundle.steD).before args s = true) (lN : (Cond.laysStatic Bundle.tN "SUPPRESSED_SENTINEL" Bundle.listD).before args s = true) : ∀ w ∈ L, w.before args s = true := by
  intro w hw
  by_cases e1 : w = .isRef (.static Bundle.tN "UNASSIGNED_STACK" Bundle.steD)
  · rw [e1]; exact hU
  · by_cases e2 : w = .isRef (.static Bundle.tN "SUPPRESSED_SENTINEL" Bundle.listD)
    · rw [e2]; exact hN
    · by_cases e3 : w = .laysStatic Bundle.tN "UNASSIGNED_STACK" Bundle.steD
      · rw [e3]; exact lU
      · by_cases e4 : w = .laysStatic Bundle.tN "SUPPRESSED_SENTINEL" Bundle.listD
        · rw [e4]; exact lN
        · exact h1 w (List.mem_filter.mpr ⟨hw, by unfold vx_no; rw [decide_eq_true e1, decide_eq_true e2, decide_eq_true e3, decide_eq_true e4]; rfl⟩)
/-- where a static field lies, its class's statics cell in H -/
def vx_L (C n d : String) (A : Nat → Prop) (U : State) (H : Heap) : Prop := ∃ (c : ClassId) (k : Class) (i : Nat) (f : Field) (a : Nat) (cell : Cell), U.vm.findClass C = some c ∧ U.fieldFound? C n d = some (c, k, i, f) ∧ f.isStatic = true ∧ k.statics = some a ∧ H[a]? = some cell ∧ cell.vm.isStatics = true ∧ cell.cls = c ∧ f.slot < cell.slots.size ∧ k.staticTypes[f.slot]? = some f.type ∧ ¬ A a
theorem vx_L.moved {C n d : String} {A : Nat → Prop} {u U : State} {H : Heap} (hvm : u.vm.Alike U.vm) (h : vx_L C n d A u H) : vx_L C n d A U H := by
  obtain ⟨c, k, i, f, a, cell, h1, h2, h3, h4, h5, h6, h7, h8, h9, h10⟩ := h
  obtain ⟨k', hi', he⟩ := State.fieldFound?_setVm hvm h2
  exact ⟨c, k', i, f, a, cell, by rw [hvm.findClass]; exact h1, hi', h3, by rw [he]; exact h4, h5, h6, h7, h8, by rw [he]; exact h9, h10⟩
theorem vx_L.kept {C n d : String} {A : Nat → Prop} {U : State} {H H1 : Heap} (h : vx_L C n d A U H) (hq : ∀ a : Nat, a < H.size → ¬ A a → H1[a]? = H[a]?) : vx_L C n d A U H1 := by
  obtain ⟨c, k, i, f, a, cell, h1, h2, h3, h4, h5, h6, h7, h8, h9, h10⟩ := h
  exact ⟨c, k, i, f, a, cell, h1, h2, h3, h4, by rw [hq a (Array.getElem?_eq_some_iff.mp h5).1 h10]; exact h5, h6, h7, h8, h9, h10⟩
theorem vx_L.narrow {C n d : String} {A B : Nat → Prop} {U : State} {H : Heap} (h : vx_L C n d A U H) (hAB : ∀ q, B q → A q) : vx_L C n d B U H := by
  obtain ⟨c, k, i, f, a, cell, h1, h2, h3, h4, h5, h6, h7, h8, h9, h10⟩ := h
  exact ⟨c, k, i, f, a, cell, h1, h2, h3, h4, h5, h6, h7, h8, h9, fun z => h10 (hAB _ z)⟩
theorem vx_L.word {C n d : String} {A : Nat → Prop} {s : State} {args : Array Value} (h : vx_L C n d A s s.heap) : (Cond.laysStatic C n d).before args s = true := by
  obtain ⟨c, k, i, f, a, cell, h1, h2, h3, h4, h5, h6, h7, h8, h9, -⟩ := h
  show (Cond.laysStatic C n d).holds args s none s [] = true
  exact Cond.laysStatic_of h1 h2 h3 h4 h5 h6 h7 h8 h9
/-- .. and what it holds: null or some reference -/
def vx_Zq (C n d : String) (A : Nat → Prop) (U : State) (H : Heap) : Prop := va_Zq C n d A U H ∧ vx_L C n d A U H
theorem vx_Zq.moved {C n d : String} {A : Nat → Prop} {u U : State} {H : Heap} (hvm : u.vm.Alike U.vm) (h : vx_Zq C n d A u H) : vx_Zq C n d A U H := ⟨va_Zq.moved hvm h.1, vx_L.moved hvm h.2⟩
theorem vx_Zq.kept {C n d : String} {A : Nat → Prop} {U : State} {H H1 : Heap} (h : vx_Zq C n d A U H) (hq : ∀ a : Nat, a < H.size → ¬ A a → H1[a]? = H[a]?) : vx_Zq C n d A U H1 := ⟨va_Zq.kept h.1 hq, vx_L.kept h.2 hq⟩
theorem vx_Zq.narrow {C n d : String} {A B : Nat → Prop} {U : State} {H : Heap} (h : vx_Zq C n d A U H) (hAB : ∀ q, B q → A q) : vx_Zq C n d B U H := ⟨va_Zq.narrow h.1 hAB, vx_L.narrow h.2 hAB⟩
theorem vx_Zqof {args : Array Value} {s : State} {C n d : String} {A : Nat → Prop} (hl : (Cond.laysStatic C n d).before args s = true) (hini : (Cond.initialized C).before args s = true) (h : (Cond.isRef (.static C n d)).before args s = true) (hA : ∀ a : Nat, a < s.heap.size → ¬ A a) : vx_Zq C n d A s s.heap := by
  refine ⟨va_Zqof hl hini h hA, ?_⟩
  obtain ⟨c, k, i, f, a, cell, h1, h2, h3, h4, h5, h6, h7, h8, h9⟩ := Cond.laysStatic_spec hl
  exact ⟨c, k, i, f, a, cell, h1, h2, h3, h4, h5, h6, h7, h8, h9, hA a (Array.getElem?_eq_some_iff.mp h5).1⟩
theorem vx_isRef {C n d : String} {v : Value} {A : Nat → Prop} {s : State} {args : Array Value} (h : va_Z C n d v A s s.heap) (hv : v.isRef = true) : (Cond.isRef (.static C n d)).before args s = true := by
  obtain ⟨cf, kf, fi, f, a, cell, h1, h2, h3, h4, h5, h6, h7, -⟩ := h
  have he : (Term.static C n d).eval args s none [] s = some v := by
    simp [Term.eval, State.fieldNamed?, h1, h2, h4, h5, h6, h7]
  simp only [Cond.before, Cond.holds, Cond.value, he]
  cases v <;> simp_all [Value.isRef]
theorem vx_isRefq {C n d : String} {A : Nat → Prop} {s : State} {args : Array Value} (h : va_Zq C n d A s s.heap) : (Cond.isRef (.static C n d)).before args s = true := by
  rcases h with h | ⟨t, h⟩
  · exact vx_isRef h rfl
  · exact vx_isRef h rfl
/-- the same frame, seen from here: as if the method were called anew in this heap -/
theorem vx_rebase {T : State} (X : Stand p l e R s m args below meth c T locs cells slots) {R' : Room} (hf : R'.frames ≤ R.frames) (hl : R'.locals ≤ R.locals) (hc : cells + R'.cells ≤ R.cells) (hs : slots + R'.slots ≤ R.slots) :
    Stand p l e R' ((T.setVm s.vm).setFrames (.invoking m args :: below)) m args below meth c T [] 0 0 := by
  have htop : (T.setVm s.vm).topJava?.isSome := X.here.top
  have hF : ((T.setVm s.vm).setFrames (.invoking m args :: below)).frames = .invoking m args :: below := State.frames_setFrames _ (State.cur_lt_of_top htop)
  obtain ⟨g₀, hg0⟩ := Option.isSome_iff_exists.mp htop
  obtain ⟨r, hr⟩ := State.topJava?_eq_some.mp hg0
  have hl9 : e.platform.stackLimits (T.setVm s.vm).me = e.platform.stackLimits s.me := X.limits
  have hb9 : (T.setVm s.vm).me.stackBytes = s.me.stackBytes := X.bytes
  refine ⟨X.admits, X.cas, X.clock, hF, ?_, X.hears, X.method, X.code, X.here, X.tail, X.warmed, ?_, ?_, ?_⟩
  · have h := X.room
    have hU : ((T.setVm s.vm).setFrames (.invoking m args :: below)).localsInUse = s.localsInUse := by
      rw [State.localsInUse_invoking hF (meth := meth) (c := c) X.method X.code, State.localsInUse_invoking X.frames X.method X.code]
    simp only [State.hasRoom, Bool.and_eq_true, decide_eq_true_eq] at h ⊢
    obtain ⟨⟨⟨⟨h1, h2, h3, h4, h5, h6⟩, h7⟩, h8⟩, h9⟩ := h
    rw [X.frames, List.length_cons] at h2 h3
    have q1 := X.heapSize
    have q2 := X.used
    simp only [hF, hU, List.length_cons, State.stackLimits_setFrames, State.stackBytes_setFrames, hl9, hb9]
    refine ⟨⟨⟨⟨by omega, by omega, by omega, by omega, by omega, h6⟩, ?_⟩, ?_⟩, X.book⟩
    · show T.heap.size + R'.cells ≤ e.platform.maxCells
      omega
    · show T.slotsUsed + R'.slots ≤ e.platform.maxSlots
      omega
  · rw [State.stackLimits_setFrames]; rfl
  · rw [State.stackBytes_setFrames]; rfl
  · refine ⟨?_, Nat.le_refl _, Nat.le_refl _, ?_, ?_, fun a c9 h9 => ⟨c9, h9, rfl, rfl, fun _ _ => rfl⟩⟩
    · obtain ⟨t, ht, -⟩ := State.frames_cons hr
      show T.setVm s.vm = { ((T.setVm s.vm).setFrames (.invoking m args :: below)).setFrames (T.setVm s.vm).frames with heap := T.heap, slotsUsed := T.slotsUsed }
      rw [State.setFrames_setFrames, State.setFrames_self ht]
      rfl
    · show T.slotsUsed = T.slotsUsed + ((T.heap.toList.drop T.heap.size).map (·.slots.size)).sum
      rw [List.drop_eq_nil_of_le (Nat.le_of_eq Array.length_toList)]
      rfl
    · show ((T.heap.toList.drop T.heap.size).map (·.slots.size)).sum ≤ 0
      rw [List.drop_eq_nil_of_le (Nat.le_of_eq Array.length_toList)]
      exact Nat.le_refl _
/-- 'throw new E()': new; dup; invokespecial; athrow -/
theorem vx_throw0 {cc : ByteArray} {pc : Nat} (hexec : p.tables.exec = Jvm.exec) (hb : c.code = cc) (hl : l.stackTraces = false) {own cls : String} {names : List String} {ik ic mc ms : Nat} {A : Nat → Prop}
    (hown : s.vm.findClass own = some m.cls) (hcls : Bundle.fit cls = true) (hnames : ∀ n ∈ names, Bundle.fit n = true)
    (hk : (Cond.classLink own ik cls).before args s = true) (hini : (Cond.initialized cls).before args s = true) (hat : ∀ w ∈ vx_at0 own ic cls names, w.before args s = true)
    (hgood : ∀ w ∈ Cond.classLink own ik cls :: Cond.initialized cls :: vx_at0 own ic cls names, vx_ot w = true)
    (hU : vx_Zq Bundle.tN "UNASSIGNED_STACK" Bundle.steD A s s.heap) (hN : vx_Zq Bundle.tN "SUPPRESSED_SENTINEL" Bundle.listD A s s.heap) (hS : va_S A s.heap H locs) (hsize : ls.size = c.maxLocals)
    (d0 : decode cc pc = .ok (.new ik, 3)) (d3 : decode cc (pc + 3) = .ok (.dup, 1)) (d4 : decode cc (pc + 4) = .ok (.invokespecial ic, 3)) (d7 : decode cc (pc + 7) = .ok (.athrow, 1))
    (hout : ∀ x ∈ c.exceptionTable.toList, covers x (pc + 7) = false)
    (hRframes : names.length + 3 < R.frames) (hRlocals : (rest.map fun v => v.category).sum + (13 * (names.length + 1) + 42) ≤ R.locals) (hRcells : cells + 1 ≤ R.cells) (hRslots : slots + 6 ≤ R.slots) (hlocks : meth.locks = false)
    (hx : ∀ t : State, s.vm.Alike t.vm → H.size ≤ t.heap.size → (∀ q : Nat, q < H.size → t.heap[q]? = H[q]?) → XC cls s t)
    (hf : ∀ z ∈ locs, free z.base) (hc : cells + 1 ≤ mc) (hs : slots + 6 ≤ ms) :
    W p l e R s m args below meth c H locs cells slots (vx_MQ below Qc XC args s mc ms free) (F0 m pc ls rest) := by
  intro T hT X
  have htr : e.platform.stackTraces = false := (show e.platform.stackTraces = l.stackTraces by rw [X.admits.platform]).trans hl
  have Y := vx_rebase X (R' := { frames := R.frames, locals := R.locals, cells := 1, slots := 6 }) (Nat.le_refl _) (Nat.le_refl _) hRcells hRslots
  obtain ⟨s', hA⟩ : ∃ z, z = (T.setVm s.vm).setFrames (.invoking m args :: below) := ⟨_, rfl⟩
  rw [← hA] at Y
  have hvm : s'.vm = s.vm := by rw [hA]; rfl
  have hhp : s'.heap = H := by rw [hA]; exact hT
  have hW0 : s.WarmedH s'.vm := by rw [hvm]; exact State.WarmedH.refl s
  have hat' : ∀ w ∈ vx_at0 own ic cls names, w.before args s' = true := fun w hw => vx_ot_at hW0 hvm.symm (hgood w (List.mem_cons_of_mem _ (List.mem_cons_of_mem _ hw))) (hat w hw)
  have hk' : (Cond.classLink own ik cls).before args s' = true := vx_ot_at hW0 hvm.symm (hgood _ List.mem_cons_self) hk
  have hini' : (Cond.initialized cls).before args s' = true := vx_ot_at hW0 hvm.symm (hgood _ (List.mem_cons_of_mem _ List.mem_cons_self)) hini
  have hU' : vx_Zq Bundle.tN "UNASSIGNED_STACK" Bundle.steD A s' s'.heap := by rw [hhp]; exact vx_Zq.moved hW0.alike (hU.kept hS.2.1)
  have hN' : vx_Zq Bundle.tN "SUPPRESSED_SENTINEL" Bundle.listD A s' s'.heap := by rw [hhp]; exact vx_Zq.moved hW0.alike (hN.kept hS.2.1)
  have h : ∀ w ∈ Bundle.ownAtoms0 own ic cls names, w.before args s' = true := vx_own hat' (vx_isRefq hU'.1) (vx_isRefq hN'.1) hU'.2.word hN'.2.word
  have hown' : s'.vm.findClass own = some m.cls := by rw [hvm]; exact hown
  have hins : (Cond.instantiable cls 6).before args s' = true := h _ (by simp [Bundle.ownAtoms0])
  obtain ⟨vm₁, cX, kX, hfX, hkX, -, -, X₁, st1⟩ := Y.newCold hexec (own := own) (C := cls) (index := ik) (n := 6) hown' hk' hins hini'
    (g := F0 m pc ls rest) rfl (by rw [hb]; exact d0) (Nat.le_refl _) (Nat.le_refl _)
  generalize hT1 : (T.setVm vm₁).pushCell { cls := cX, slots := kX.instanceTypes.map defaultValue, vm := .none } = T1 at X₁ st1
  have hcat : (Value.ref T.heap.size).category = 1 := rfl
  have hcellA : T1.heap[T.heap.size]? = some (freshCell cX kX) := by rw [← hT1]; exact State.heap_pushCell_size _ _
  have d3' : decode c.code (pc + 3) = .ok (.dup, 1) := by rw [hb]; exact d3
  obtain ⟨U, hsteps, hrun, hend, hW, hsame, ce, hce, hO⟩ := X₁.ctorThrow0 hexec htr (own := own) (cls := cls) (names := names) (ic := ic) hown' hcls hnames h (fun x hx => nomatch hx) hfX hkX hcellA (by rw [hhp, hT]; exact Nat.le_refl _)
    (g := { method := m, pc := pc + 4, locals := ls, stack := .ref T.heap.size :: .ref T.heap.size :: rest, locked := none }) rfl hsize rfl rfl (rest := rest) rfl
    (by rw [hb]; exact d4) (by rw [hb]; exact d7) hout hRframes (by simp only [List.map_cons, List.sum_cons, hcat]; omega) hlocks
  obtain ⟨f1, f2⟩ := vx_frame hsame
  rw [hhp] at f1 f2
  have hWs : s.WarmedH U.vm := State.WarmedH.trans hW0 hW
  have hcl : s.vm.findClass cls = some ce.cls := by
    have h9 := hO.cls
    rw [hvm] at h9
    exact h9
  have hall : s.sameButNew ({ U with vm := s.vm } : State) locs mc ms := by
    subst hA
    obtain ⟨e1, e2⟩ := hsame
    rw [State.setFrames_setFrames] at e1
    have h2 : (T.setVm s.vm).sameButNew ({ U with vm := s.vm } : State) [] (0 + 1) (0 + 6) := ⟨e1, e2⟩
    have h3 := X.same.trans h2
    rw [List.append_nil] at h3
    exact h3.mono hc hs
  refine ⟨U, ?_, .threw T.heap.size, hrun, hend, Or.inr ⟨T.heap.size, rfl, cls, ce, locs, hx U hWs.alike f1 (fun q hq => f2 q hq (fun z hz => nomatch hz)), hce, hO.vm, hcl, hWs, hall, hf⟩⟩
  refine st1 _ ?_
  show Steps p.tables e below (T1.setTop { method := m, pc := pc + 3, locals := ls, stack := .ref T.heap.size :: rest, locked := none }) _
  jvm_step X₁.here [X₁.here.top, hexec, d3', Value.category]
  exact hsteps
/-- 'throw new E("text")': new; dup; ldc; invokespecial; athrow -/
theorem vx_throwS {cc : ByteArray} {pc : Nat} (hexec : p.tables.exec = Jvm.exec) (hb : c.code = cc) (hl : l.stackTraces = false) {own cls text : String} {names : List String} {ik is ic mc ms sa : Nat} {A : Nat → Prop}
    (hown : s.vm.findClass own = some m.cls) (hcls : Bundle.fit cls = true) (hnames : ∀ n ∈ names, Bundle.fit n = true)
    (hk : (Cond.classLink own ik cls).before args s = true) (hini : (Cond.initialized cls).before args s = true) (hstr : vk_R own is text sa s) (hat : ∀ w ∈ vx_atS own ic cls names, w.before args s = true)
    (hgood : ∀ w ∈ Cond.classLink own ik cls :: Cond.initialized cls :: vx_atS own ic cls names, vx_ot w = true)
    (hU : vx_Zq Bundle.tN "UNASSIGNED_STACK" Bundle.steD A s s.heap) (hN : vx_Zq Bundle.tN "SUPPRESSED_SENTINEL" Bundle.listD A s s.heap) (hS : va_S A s.heap H locs) (hsize : ls.size = c.maxLocals)
    (d0 : decode cc pc = .ok (.new ik, 3)) (d3 : decode cc (pc + 3) = .ok (.dup, 1)) (d4 : decode cc (pc + 4) = .ok (.ldc is, 2)) (d6 : decode cc (pc + 6) = .ok (.invokespecial ic, 3)) (d9 : decode cc (pc + 9) = .ok (.athrow, 1))
    (hout : ∀ x ∈ c.exceptionTable.toList, covers x (pc + 9) = false)
    (hRframes : names.length + 3 < R.frames) (hRlocals : (rest.map fun v => v.category).sum + (13 * (names.length + 1) + 43) ≤ R.locals) (hRcells : cells + 1 ≤ R.cells) (hRslots : slots + 6 ≤ R.slots) (hlocks : meth.locks = false)
    (hx : ∀ t : State, s.vm.Alike t.vm → H.size ≤ t.heap.size → (∀ q : Nat, q < H.size → t.heap[q]? = H[q]?) → XC cls s t)
    (hf : ∀ z ∈ locs, free z.base) (hc : cells + 1 ≤ mc) (hs : slots + 6 ≤ ms) :
    W p l e R s m args below meth c H locs cells slots (vx_MQ below Qc XC args s mc ms free) (F0 m pc ls rest) := by
  intro T hT X
  have htr : e.platform.stackTraces = false := (show e.platform.stackTraces = l.stackTraces by rw [X.admits.platform]).trans hl
  have Y := vx_rebase X (R' := { frames := R.frames, locals := R.locals, cells := 1, slots := 6 }) (Nat.le_refl _) (Nat.le_refl _) hRcells hRslots
  obtain ⟨s', hA⟩ : ∃ z, z = (T.setVm s.vm).setFrames (.invoking m args :: below) := ⟨_, rfl⟩
  rw [← hA] at Y
  have hvm : s'.vm = s.vm := by rw [hA]; rfl
  have hhp : s'.heap = H := by rw [hA]; exact hT
  have hW0 : s.WarmedH s'.vm := by rw [hvm]; exact State.WarmedH.refl s
  have hat' : ∀ w ∈ vx_atS own ic cls names, w.before args s' = true := fun w hw => vx_ot_at hW0 hvm.symm (hgood w (List.mem_cons_of_mem _ (List.mem_cons_of_mem _ hw))) (hat w hw)
  have hk' : (Cond.classLink own ik cls).before args s' = true := vx_ot_at hW0 hvm.symm (hgood _ List.mem_cons_self) hk
  have hini' : (Cond.initialized cls).before args s' = true := vx_ot_at hW0 hvm.symm (hgood _ (List.mem_cons_of_mem _ List.mem_cons_self)) hini
  have hU' : vx_Zq Bundle.tN "UNASSIGNED_STACK" Bundle.steD A s' s'.heap := by rw [hhp]; exact vx_Zq.moved hW0.alike (hU.kept hS.2.1)
  have hN' : vx_Zq Bundle.tN "SUPPRESSED_SENTINEL" Bundle.listD A s' s'.heap := by rw [hhp]; exact vx_Zq.moved hW0.alike (hN.kept hS.2.1)
  have h : ∀ w ∈ Bundle.ownAtoms own ic cls names, w.before args s' = true := vx_own hat' (vx_isRefq hU'.1) (vx_isRefq hN'.1) hU'.2.word hN'.2.word
  have hown' : s'.vm.findClass own = some m.cls := by rw [hvm]; exact hown
  have hins : (Cond.instantiable cls 6).before args s' = true := h _ (by simp [Bundle.ownAtoms])
  obtain ⟨vm₁, cX, kX, hfX, hkX, -, -, X₁, st1⟩ := Y.newCold hexec (own := own) (C := cls) (index := ik) (n := 6) hown' hk' hins hini'
    (g := F0 m pc ls rest) rfl (by rw [hb]; exact d0) (Nat.le_refl _) (Nat.le_refl _)
  generalize hT1 : (T.setVm vm₁).pushCell { cls := cX, slots := kX.instanceTypes.map defaultValue, vm := .none } = T1 at X₁ st1
  have hcat : (Value.ref T.heap.size).category = 1 := rfl
  have hcellA : T1.heap[T.heap.size]? = some (freshCell cX kX) := by rw [← hT1]; exact State.heap_pushCell_size _ _
  have d3' : decode c.code (pc + 3) = .ok (.dup, 1) := by rw [hb]; exact d3
  have d4' : decode c.code (pc + 4) = .ok (.ldc is, 2) := by rw [hb]; exact d4
  have hstr' : vk_R own is text sa s' := vk_R.warm hW0 hstr
  obtain ⟨U, hsteps, hrun, hend, hW, hsame, ce, hce, hO⟩ := X₁.ctorThrowS hexec htr (own := own) (cls := cls) (names := names) (ic := ic) hown' hcls hnames h (fun x hx => nomatch hx) hfX hkX hcellA (by rw [hhp, hT]; exact Nat.le_refl _) (msg := .ref sa) rfl
    (g := { method := m, pc := pc + 6, locals := ls, stack := .ref sa :: .ref T.heap.size :: .ref T.heap.size :: rest, locked := none }) rfl hsize rfl rfl (rest := rest) rfl
    (by rw [hb]; exact d6) (by rw [hb]; exact d9) hout hRframes (by simp only [List.map_cons, List.sum_cons, hcat]; omega) hlocks
  obtain ⟨f1, f2⟩ := vx_frame hsame
  rw [hhp] at f1 f2
  have hWs : s.WarmedH U.vm := State.WarmedH.trans hW0 hW
  have hcl : s.vm.findClass cls = some ce.cls := by
    have h9 := hO.cls
    rw [hvm] at h9
    exact h9
  have hall : s.sameButNew ({ U with vm := s.vm } : State) locs mc ms := by
    subst hA
    obtain ⟨e1, e2⟩ := hsame
    rw [State.setFrames_setFrames] at e1
    have h2 : (T.setVm s.vm).sameButNew ({ U with vm := s.vm } : State) [] (0 + 1) (0 + 6) := ⟨e1, e2⟩
    have h3 := X.same.trans h2
    rw [List.append_nil] at h3
    exact h3.mono hc hs
  refine ⟨U, ?_, .threw T.heap.size, hrun, hend, Or.inr ⟨T.heap.size, rfl, cls, ce, locs, hx U hWs.alike f1 (fun q hq => f2 q hq (fun z hz => nomatch hz)), hce, hO.vm, hcl, hWs, hall, hf⟩⟩
  refine st1 _ ?_
  show Steps p.tables e below (T1.setTop { method := m, pc := pc + 3, locals := ls, stack := .ref T.heap.size :: rest, locked := none }) _
  jvm_step X₁.here [X₁.here.top, hexec, d3', Value.category]
  exact X₁.ldcString hexec (own := own) (text := text) (index := is) (a := sa) hown' hstr'.1 hstr'.2
    (g := { method := m, pc := pc + 4, locals := ls, stack := .ref T.heap.size :: .ref T.heap.size :: rest, locked := none }) rfl d4' _ hsteps
/-- 'throw new E("text")', the text by a wide index -/
theorem vx_throwSW {cc : ByteArray} {pc : Nat} (hexec : p.tables.exec = Jvm.exec) (hb : c.code = cc) (hl : l.stackTraces = false) {own cls text : String} {names : List String} {ik is ic mc ms sa : Nat} {A : Nat → Prop}
    (hown : s.vm.findClass own = some m.cls) (hcls : Bundle.fit cls = true) (hnames : ∀ n ∈ names, Bundle.fit n = true)
    (hk : (Cond.classLink own ik cls).before args s = true) (hini : (Cond.initialized cls).before args s = true) (hstr : vk_R own is text sa s) (hat : ∀ w ∈ vx_atS own ic cls names, w.before args s = true)
    (hgood : ∀ w ∈ Cond.classLink own ik cls :: Cond.initialized cls :: vx_atS own ic cls names, vx_ot w = true)
    (hU : vx_Zq Bundle.tN "UNASSIGNED_STACK" Bundle.steD A s s.heap) (hN : vx_Zq Bundle.tN "SUPPRESSED_SENTINEL" Bundle.listD A s s.heap) (hS : va_S A s.heap H locs) (hsize : ls.size = c.maxLocals)
    (d0 : decode cc pc = .ok (.new ik, 3)) (d3 : decode cc (pc + 3) = .ok (.dup, 1)) (d4 : decode cc (pc + 4) = .ok (.ldc_w is, 3)) (d7 : decode cc (pc + 7) = .ok (.invokespecial ic, 3)) (d10 : decode cc (pc + 10) = .ok (.athrow, 1))
    (hout : ∀ x ∈ c.exceptionTable.toList, covers x (pc + 10) = false)
    (hRframes : names.length + 3 < R.frames) (hRlocals : (rest.map fun v => v.category).sum + (13 * (names.length + 1) + 43) ≤ R.locals) (hRcells : cells + 1 ≤ R.cells) (hRslots : slots + 6 ≤ R.slots) (hlocks : meth.locks = false)
    (hx : ∀ t : State, s.vm.Alike t.vm → H.size ≤ t.heap.size → (∀ q : Nat, q < H.size → t.heap[q]? = H[q]?) → XC cls s t)
    (hf : ∀ z ∈ locs, free z.base) (hc : cells + 1 ≤ mc) (hs : slots + 6 ≤ ms) :
    W p l e R s m args below meth c H locs cells slots (vx_MQ below Qc XC args s mc ms free) (F0 m pc ls rest) := by
  intro T hT X
  have htr : e.platform.stackTraces = false := (show e.platform.stackTraces = l.stackTraces by rw [X.admits.platform]).trans hl
  have Y := vx_rebase X (R' := { frames := R.frames, locals := R.locals, cells := 1, slots := 6 }) (Nat.le_refl _) (Nat.le_refl _) hRcells hRslots
  obtain ⟨s', hA⟩ : ∃ z, z = (T.setVm s.vm).setFrames (.invoking m args :: below) := ⟨_, rfl⟩
  rw [← hA] at Y
  have hvm : s'.vm = s.vm := by rw [hA]; rfl
  have hhp : s'.heap = H := by rw [hA]; exact hT
  have hW0 : s.WarmedH s'.vm := by rw [hvm]; exact State.WarmedH.refl s
  have hat' : ∀ w ∈ vx_atS own ic cls names, w.before args s' = true := fun w hw => vx_ot_at hW0 hvm.symm (hgood w (List.mem_cons_of_mem _ (List.mem_cons_of_mem _ hw))) (hat w hw)
  have hk' : (Cond.classLink own ik cls).before args s' = true := vx_ot_at hW0 hvm.symm (hgood _ List.mem_cons_self) hk
  have hini' : (Cond.initialized cls).before args s' = true := vx_ot_at hW0 hvm.symm (hgood _ (List.mem_cons_of_mem _ List.mem_cons_self)) hini
  have hU' : vx_Zq Bundle.tN "UNASSIGNED_STACK" Bundle.steD A s' s'.heap := by rw [hhp]; exact vx_Zq.moved hW0.alike (hU.kept hS.2.1)
  have hN' : vx_Zq Bundle.tN "SUPPRESSED_SENTINEL" Bundle.listD A s' s'.heap := by rw [hhp]; exact vx_Zq.moved hW0.alike (hN.kept hS.2.1)
  have h : ∀ w ∈ Bundle.ownAtoms own ic cls names, w.before args s' = true := vx_own hat' (vx_isRefq hU'.1) (vx_isRefq hN'.1) hU'.2.word hN'.2.word
  have hown' : s'.vm.findClass own = some m.cls := by rw [hvm]; exact hown
  have hins : (Cond.instantiable cls 6).before args s' = true := h _ (by simp [Bundle.ownAtoms])
  obtain ⟨vm₁, cX, kX, hfX, hkX, -, -, X₁, st1⟩ := Y.newCold hexec (own := own) (C := cls) (index := ik) (n := 6) hown' hk' hins hini'
    (g := F0 m pc ls rest) rfl (by rw [hb]; exact d0) (Nat.le_refl _) (Nat.le_refl _)
  generalize hT1 : (T.setVm vm₁).pushCell { cls := cX, slots := kX.instanceTypes.map defaultValue, vm := .none } = T1 at X₁ st1
  have hcat : (Value.ref T.heap.size).category = 1 := rfl
  have hcellA : T1.heap[T.heap.size]? = some (freshCell cX kX) := by rw [← hT1]; exact State.heap_pushCell_size _ _
  have d3' : decode c.code (pc + 3) = .ok (.dup, 1) := by rw [hb]; exact d3
  have d4' : decode c.code (pc + 4) = .ok (.ldc_w is, 3) := by rw [hb]; exact d4
  have hstr' : vk_R own is text sa s' := vk_R.warm hW0 hstr
  obtain ⟨U, hsteps, hrun, hend, hW, hsame, ce, hce, hO⟩ := X₁.ctorThrowS hexec htr (own := own) (cls := cls) (names := names) (ic := ic) hown' hcls hnames h (fun x hx => nomatch hx) hfX hkX hcellA (by rw [hhp, hT]; exact Nat.le_refl _) (msg := .ref sa) rfl
    (g := { method := m, pc := pc + 7, locals := ls, stack := .ref sa :: .ref T.heap.size :: .ref T.heap.size :: rest, locked := none }) rfl hsize rfl rfl (rest := rest) rfl
    (by rw [hb]; exact d7) (by rw [hb]; exact d10) hout hRframes (by simp only [List.map_cons, List.sum_cons, hcat]; omega) hlocks
  obtain ⟨f1, f2⟩ := vx_frame hsame
  rw [hhp] at f1 f2
  have hWs : s.WarmedH U.vm := State.WarmedH.trans hW0 hW
  have hcl : s.vm.findClass cls = some ce.cls := by
    have h9 := hO.cls
    rw [hvm] at h9
    exact h9
  have hall : s.sameButNew ({ U with vm := s.vm } : State) locs mc ms := by
    subst hA
    obtain ⟨e1, e2⟩ := hsame
    rw [State.setFrames_setFrames] at e1
    have h2 : (T.setVm s.vm).sameButNew ({ U with vm := s.vm } : State) [] (0 + 1) (0 + 6) := ⟨e1, e2⟩
    have h3 := X.same.trans h2
    rw [List.append_nil] at h3
    exact h3.mono hc hs
  refine ⟨U, ?_, .threw T.heap.size, hrun, hend, Or.inr ⟨T.heap.size, rfl, cls, ce, locs, hx U hWs.alike f1 (fun q hq => f2 q hq (fun z hz => nomatch hz)), hce, hO.vm, hcl, hWs, hall, hf⟩⟩
  refine st1 _ ?_
  show Steps p.tables e below (T1.setTop { method := m, pc := pc + 3, locals := ls, stack := .ref T.heap.size :: rest, locked := none }) _
  jvm_step X₁.here [X₁.here.top, hexec, d3', Value.category]
  exact X₁.ldcStringW hexec (own := own) (text := text) (index := is) (a := sa) hown' hstr'.1 hstr'.2
    (g := { method := m, pc := pc + 4, locals := ls, stack := .ref T.heap.size :: .ref T.heap.size :: rest, locked := none }) rfl d4' _ hsteps
end Ends
section Bodies
variable {l : Launch}
theorem vx_ofW {y : MethodName} {ws ws' : List Cond} {rm : Room} {Pc : Array Value → State → Prop} {Qc : Array Value → State → Outcome → State → Prop} {XC : String → State → State → Prop} {mc ms : Nat} {free : Addr → Prop} {cc : ByteArray} {maxL : Nat} {ret : Option FieldType}
    (hy : plainName y.cls = true) (hw : ws = Cond.code y cc maxL ret :: ws')
    (body : ∀ p e s m args below meth c s₁, BodyLoose p l y (headSpec ws rm) cc maxL ret e s m args below meth c s₁ → c.maxLocals = maxL → (∀ x ∈ c.exceptionTable.toList, False) → Pc args s →
      W p l e (headSpec ws rm).room s m args below meth c s.heap [] 0 0 (vx_MQ below Qc XC args s mc ms free) (entryFrame m args maxL)) : vx_Met l y ws rm Pc Qc XC mc ms free := by
  refine MetFree.of_bodyS (code := cc) (maxLocals := maxL) (ret := ret) hy ?_ ?_
  · intro args s m h hn
    obtain ⟨meth, c, h1, h2, h3, h4, h5, h6, -, -⟩ := Cond.code_spec hn (atoms_spec (ws := ws) h _ (by rw [hw]; exact List.mem_cons_self))
    exact ⟨meth, c, h1, h2, h3, h4, h5, h6⟩
  · intro p e s m args below meth c s₁ B hml hP _
    have hh0 : s₁.heap = s.heap := by rw [B.state]; rfl
    have ht : ∀ x ∈ c.exceptionTable.toList, False := by
      obtain ⟨meth9, c9, h1, h2, -, -, -, -, h7, -⟩ := Cond.code_spec B.named (atoms_spec (ws := ws) B.pre _ (by rw [hw]; exact List.mem_cons_self))
      cases Option.some.inj (h1.symm.trans B.method)
      cases Option.some.inj (h2.symm.trans (Stand.of_body B).code)
      intro x hx
      rw [Array.isEmpty_iff.mp h7] at hx
      cases hx
    obtain ⟨t, a1, o, b1, b2, b3⟩ := body p e s m args below meth c s₁ B hml ht hP s₁ hh0 (Stand.of_body B)
    exact ⟨t, o, a1, b1, b2, b3⟩
/-- the table of a body with handlers -/
theorem vx_table {p : Program} {x y : MethodName} {S : Spec} {cc bytes : ByteArray} {maxL maxL' : Nat} {ret ret' : Option FieldType} {e : Env} {s s₁ : State} {m : MethodId} {args : Array Value} {below : List Frame} {meth : Method} {c : Code} {hh : List (Nat × Nat × Nat × Nat)}
    (B : BodyLoose p l y S cc maxL ret e s m args below meth c s₁) (h : (Cond.codeWith y bytes maxL' ret' hh).before args s = true) : c.exceptionTable.toList = tableOf hh := by
  obtain ⟨m9, meth9, c9, hn9, h1, h2, -, -, h6, -⟩ := Cond.codeWith_spec h
  cases Option.some.inj (hn9.symm.trans B.named)
  cases Option.some.inj (h1.symm.trans B.method)
  cases Option.some.inj (h2.symm.trans (Stand.of_body B).code)
  rw [← h6, table_eq]
end Bodies
end VXA
/-! ===== END ===== -/
/-! ===== BEGIN a static call of a method with an exception table ===== -/
section VXS
variable {p : Program} {l : Launch} {e : Env} {R : Room} {s : State} {m : MethodId} {args : Array Value} {below : List Frame} {meth : Method} {c : Code} {T : State} {H : Heap} {locs : List Loc} {cells slots : Nat}
abbrev vx_CSW (R : Room) (s : State) (args : Array Value) (own : String) (index : Nat) (y : MethodName) (bytes : ByteArray) (maxL : Nat) (ret : Option FieldType) (hh : List (Nat × Nat × Nat × Nat)) (ws : List Cond) (rm : Room) (mc ms n : Nat) : Prop :=
  (rm.cells = mc ∧ rm.slots = ms ∧ rm.frames + 1 ≤ R.frames ∧ 8 + (maxL + 11) + rm.locals ≤ R.locals ∧ (∀ w ∈ ws, ∀ (a' : Array Value) (U : State), s.WarmedH U.vm → w.before a' U = true) ∧ Cond.codeWith y bytes maxL ret hh ∈ ws) ∧
  (Cond.codeWith y bytes maxL ret hh).before args s = true ∧ (Cond.initialized y.cls).before args s = true ∧ (y.cls ≠ "java/lang/invoke/MethodHandle" ∧ y.cls ≠ "java/lang/invoke/VarHandle") ∧
  (∀ sig, parseMethodDescriptor y.desc = some sig → n = sig.parameters.length) ∧ (Cond.methodLink own index y).before args s = true ∧ (Cond.static y).before args s = true
theorem vx_cwSW {own : String} {index maxL mc ms : Nat} {y : MethodName} {bytes : ByteArray} {ret : Option FieldType} {hh : List (Nat × Nat × Nat × Nat)} {Ts ws ws' : List Cond} {rm : Room} (n : Nat) (ht : ∀ w ∈ Ts, w.before args s = true) (hT : GoodIn Ts (va_wsS own index y ws)) (hw : ws = Cond.codeWith y bytes maxL ret hh :: ws') (hrc : rm.cells = mc) (hrs : rm.slots = ms)
    (hd : y.cls ≠ "java/lang/invoke/MethodHandle" ∧ y.cls ≠ "java/lang/invoke/VarHandle" ∧ (parseMethodDescriptor y.desc).map (fun d => d.parameters.length) = some n) (hR : rm.frames + 1 ≤ R.frames ∧ 8 + (maxL + 11) + rm.locals ≤ R.locals) :
    vx_CSW R s args own index y bytes maxL ret hh ws rm mc ms n := by
  have ok : ∀ w ∈ va_wsS own index y ws, w.before args s = true := fun w h => ht w (hT w h).1
  have hG : GoodIn Ts ws := fun w h => hT w (by unfold va_wsS; exact List.mem_append_right _ h)
  have hc : Cond.codeWith y bytes maxL ret hh ∈ ws := by rw [hw]; exact List.mem_cons_self
  refine ⟨⟨hrc, hrs, hR.1, hR.2, pay_in ht hG, hc⟩, ht _ (hG _ hc).1, ok _ (by simp [va_wsS]), ⟨hd.1, hd.2.1⟩, fun sig h => ?_, ok _ (by simp [va_wsS]), ok _ (by simp [va_wsS])⟩
  have h2 := hd.2.2
  rw [h] at h2
  exact (Option.some.inj h2).symm
theorem vx_callSW (X : Stand p l e R s m args below meth c T locs cells slots) (hexec : p.tables.exec = Jvm.exec) {own : String} {index : Nat} {y : MethodName} {bytes : ByteArray} {maxL : Nat} {ret : Option FieldType} {hh : List (Nat × Nat × Nat × Nat)}
    (hown : s.vm.findClass own = some m.cls) (hlink : (Cond.methodLink own index y).before args s = true) (hstat : (Cond.static y).before args s = true) (hinit : (Cond.initialized y.cls).before args s = true)
    (hcode : (Cond.codeWith y bytes maxL ret hh).before args s = true) (hy : y.cls ≠ "java/lang/invoke/MethodHandle" ∧ y.cls ≠ "java/lang/invoke/VarHandle")
    {W9 : Nat} {Pre : Pt → Array Value → Prop} {Post : Pt → Array Value → Option Value → Pt → Prop} (hK : Back l R p e below s args y 3 W9 Pre Post)
    {g : JFrame} (hg : g.method = m) (hsize : g.locals.size = c.maxLocals) {argsL rest : List Value} (hlen : ∀ sig, parseMethodDescriptor y.desc = some sig → argsL.length = sig.parameters.length)
    (hstack : g.stack = argsL.reverse ++ rest) (hW : 2 * g.monitorRoom + (rest.map fun v => v.category).sum ≤ W9) (hdg : decode c.code g.pc = .ok (.invokestatic index, 3))
    (hpre : ∀ vm₁, s.WarmedH vm₁ → Pre ⟨T.setVm vm₁, locs, cells, slots⟩ argsL.toArray) :
    ∃ (v : Option Value) (vm₁ : Vm) (B : Pt), s.WarmedH vm₁ ∧ Stand p l e R s m args below meth c B.U B.locs B.cells B.slots ∧ Post ⟨T.setVm vm₁, locs, cells, slots⟩ argsL.toArray v B ∧
      ∀ target, Steps p.tables e below (B.U.setTop { g with pc := g.pc + 3, stack := v.toList ++ rest }) target → Steps p.tables e below (T.setTop g) target := by
  obtain ⟨mk, methM, cM, hnamed, hmethM, -, -, -, -, -, -, hsigM⟩ := Cond.codeWith_spec hcode
  have hstatic : methM.isStatic = true := Cond.static_spec hnamed hmethM hstat
  obtain ⟨kP, hkP, -⟩ := className_of_methodNamed hnamed
  have hinitP : kP.init = .initialized := Cond.initialized_spec (findClass_of_methodNamed hnamed) hkP hinit
  obtain ⟨vm₁, X₁, hstep₁⟩ := X.invokestatic hexec hown hlink hnamed hmethM hstatic hkP hinitP hy (g := g) hg (argsL := argsL) (rest := rest) (hlen _ hsigM) hstack hdg
  obtain ⟨v, B, X', hpost, hsteps⟩ := hK m meth c ⟨T.setVm vm₁, locs, cells, slots⟩ { g with stack := rest } (.invokestatic index) mk argsL.toArray X₁ hg hsize hdg hW (X₁.named hnamed) (hpre vm₁ X₁.warmed)
  exact ⟨v, vm₁, B, X₁.warmed, X', hpost, fun target h => hstep₁ _ fun acts => by rw [doInvoke_state]; exact hsteps.trans h⟩
theorem vx_runSW {y : MethodName} {bytes cc : ByteArray} {maxL nL mc ms n index : Nat} {ret : Option FieldType} {hh : List (Nat × Nat × Nat × Nat)} {ws : List Cond} {rm : Room} {Pc : Array Value → State → Prop} {Qc : Array Value → State → Outcome → State → Prop} {free : Addr → Prop} {Ts : List Cond} {own : String} {As rest : List Value} {g : JFrame}
    (S : CallFix p m c cc nL s args Ts own) (hM : Met l y ws rm Pc Qc mc ms free) (cw : vx_CSW R s args own index y bytes maxL ret hh ws rm mc ms n) (hp : PreS s H Pc As)
    (hg : g.method = m) (hn : As.length = n) (hsize : g.locals.size = nL) (hstack : g.stack = As.reverse ++ rest) (hW : 2 * g.monitorRoom + (rest.map fun v => v.category).sum ≤ 8) (hdg : decode cc g.pc = .ok (.invokestatic index, 3)) (hf : cells + mc ≤ R.cells ∧ slots + ms ≤ R.slots) :
    va_Run p l e R s m args below meth c H locs cells slots mc ms g rest (Qc As.toArray) (free) := by
  obtain ⟨⟨hrc, hrs, hfr, hlo, hws, hcw⟩, hcode, hini, hy, hlen, hl, hstt⟩ := cw
  have hK : Back l R p e below s args y 3 8 (PreOf R mc ms Pc) (PostOf Qc mc ms free) := va_backW (hh := hh) (bytes := bytes) (maxL := maxL) (ret := ret) hM hp.1 hrc hrs hfr hlo hws hcw (fun a' U hW => word_at hW (Or.inl (by first | rfl | simp [Cond.onTables, Cond.keeps, Cond.steady])) hini)
  obtain ⟨hx, hb, hml, ho, -⟩ := S
  intro T hT X
  obtain ⟨v, vm₁, ⟨U', l2, c2, s2⟩, hW₁, X', ⟨g', mk, t, L, e1, e2, hq, h1, hL, h2, h3⟩, st⟩ := vx_callSW X hx (hh := hh) (bytes := bytes) (maxL := maxL) (ret := ret) ho hl hstt hini hcode hy hK hg (hsize.trans hml.symm) (argsL := As) (rest := rest) (fun sig h => hn.trans (hlen sig h)) hstack hW (by rw [hb]; exact hdg)
    (fun vm₁ hW₁ => ⟨hf.1, hf.2, hp.2 (T.setVm vm₁) hT hW₁⟩)
  dsimp only [Pt.U, Pt.locs, Pt.cells, Pt.slots] at X' e1 e2 h1 h2 h3 st
  subst h1; subst h2; subst h3
  exact ⟨v, (T.setVm vm₁).calling g' mk As.toArray, t, U', L, hT, X', hL, e1, e2, hq, st⟩
/-- not caught here, past rows that name other classes: it goes on to the caller -/
theorem vx_outP {p : Program} {l : Launch} {e : Env} {R : Room} {s : State} {m : MethodId} {args : Array Value} {below : List Frame} {meth : Method} {c : Code} {H : Heap} {locs : List Loc} {cells slots : Nat} {free : Addr → Prop} {ls : Array Slot} {rest : List Value} {Qc : Array Value → State → Outcome → State → Prop} {XC : String → State → State → Prop}
    {pc : Nat} {own E : String} {ce : Cell} {q : Addr} {mc ms : Nat} (hown : s.vm.findClass own = some m.cls) (hlocks : meth.locks = false)
    (hpass : ∀ z ∈ c.exceptionTable.toList, covers z pc = false ∨ (z.catchType ≠ 0 ∧ ∃ nm : String, (Cond.classLink own z.catchType nm).before args s = true ∧ va_Nc E nm s)) (hcell : H[q]? = some ce) (hv : ce.vm = .none) (hcl : s.vm.findClass E = some ce.cls)
    (hx : ∀ t : State, t.heap = H → s.vm.Alike t.vm → XC E s t) (hf : ∀ z ∈ locs, free z.base) (hc : cells ≤ mc) (hs : slots ≤ ms) :
    vx_W p l e R s m args below meth c H locs cells slots (vx_MQ below Qc XC args s mc ms free) (F0 m pc ls rest) q := by
  intro T hT X
  have hpl : e.platform.magicAccessors = ({} : Platform).magicAccessors := by rw [X.admits.platform]
  obtain ⟨vm', hW', X', st⟩ := X.outThrough hlocks q (g := F0 m pc ls rest) rfl rfl rfl (cell := ce) (by rw [hT]; exact hcell) (by rw [hv]; rfl)
    (by obtain ⟨k9, h9, -⟩ := Vm.findClass_spec hcl; exact ⟨k9, h9⟩) (fun z hz => by
      rcases hpass z hz with h | ⟨hz0, nm, hl1, hn1⟩
      · exact Or.inl h
      · obtain ⟨c6, hc6, hcl6⟩ := Cond.classLink_spec hown hl1 e.platform hpl
        obtain ⟨a8, b8, h1, h2, h3⟩ := hn1
        cases Option.some.inj (h1.symm.trans hcl)
        cases Option.some.inj (h2.symm.trans hc6)
        exact Or.inr ⟨hz0, _, hcl6, h3⟩)
  obtain ⟨g₀, hfr⟩ := X'.frames_eq
  have hcell9 : ((T.setVm vm').setFrames (.throwing q :: below)).heap[q]? = some ce := by
    show T.heap[q]? = some ce
    rw [hT]; exact hcell
  have hend : Ended ((T.setVm vm').setFrames (.throwing q :: below)) below (.threw q) := State.frames_setFrames _ (State.cur_lt_of_frames hfr)
  refine ⟨(T.setVm vm').setFrames (.throwing q :: below), ?_, .threw q, X'.here.running, hend, Or.inr ⟨q, rfl, E, ce, locs, hx _ hT (X'.ends _).1.alike, hcell9, hv, hcl, (X'.ends _).1, (X'.ends _).2.mono hc hs, hf⟩⟩
  rw [X.pushThrowing_eq]
  exact st
/-- a thing of a world lies in the heap -/
theorem vx_lt {D : va_G} {cl : List vw_C} {ws : va_W} {H1 : Heap} (h : va_P D cl ws H1) {k : Nat} {q : Nat × va_E} (hk : ws[k]? = some q) : q.1 < H1.size := (h k q hk).lt
end VXS
/-! ===== END ===== -/
/-! ===== BEGIN methods with a table of their own: called by a name, returning or throwing ===== -/
section VXH
/-! vx_backW, vx_callVX, vx_callSX, vx_callVW, vx_runVW, vx_runVX, vx_runSX, vx_ofWH follow the same proofs as their sisters above (Free/Laws.lean, Shelf42/LK1.lean); vx_outP calls Shelf42/NT130.lean (outThrough). -/
section
variable {l : Launch} {R : Room} {p : Program} {e : Env} {below : List Frame} {s : State} {sargs : Array Value} {y : MethodName} {len W9 : Nat}
theorem vx_backW {ws : List Cond} {rm : Room} {Pc : Array Value → State → Prop} {Qc : Array Value → State → Outcome → State → Prop} {XC : String → State → State → Prop} {mc ms : Nat} {free : Addr → Prop} {bytes : ByteArray} {maxL : Nat} {ret : Option FieldType} {hh : List (Nat × Nat × Nat × Nat)}
    (hM : vx_Met l y ws rm Pc Qc XC mc ms free) (hblind : FrameBlind Pc) (hrc : rm.cells = mc) (hrs : rm.slots = ms)
    (hframes : rm.frames + 1 ≤ R.frames) (hlocals : W9 + (maxL + 11) + rm.locals ≤ R.locals)
    (hws : ∀ w ∈ ws, ∀ a' U, s.WarmedH U.vm → w.before a' U = true) (hcode : Cond.codeWith y bytes maxL ret hh ∈ ws) (hinit : ∀ a' U, s.WarmedH U.vm → (Cond.initialized y.cls).before a' U = true) :
    vx_Back l R p e below s sargs y len W9 (PreOf R mc ms Pc) (PostOf Qc mc ms free) (vx_Post XC mc ms free) := by
  intro m meth c A g ig mk a X hg hsize hdg hW hn hp
  have h1 : (headSpec ws rm).pre.before a A.U = true := atoms_intro fun w hw => hws w hw _ _ X.warmed
  have h2 : (Cond.codeWith y bytes maxL ret hh).before a A.U = true := hws _ hcode _ _ X.warmed
  have h3 : (Cond.initialized y.cls).before a A.U = true := hinit _ _ X.warmed
  have h4 : A.cells + (headSpec ws rm).room.cells ≤ R.cells := by rw [show (headSpec ws rm).room.cells = mc from hrc]; exact hp.1
  have h5 : A.slots + (headSpec ws rm).room.slots ≤ R.slots := by rw [show (headSpec ws rm).room.slots = ms from hrs]; exact hp.2.1
  have hPc : Pc a (A.U.calling g mk a) := hblind _ _ _ _ hp.2.2
  obtain ⟨U, Ls, c0, s0⟩ := A
  dsimp only [Pt.U, Pt.locs, Pt.cells, Pt.slots] at h1 h2 h3 h4 h5 X hn hPc ⊢
  obtain ⟨m9, methY, cY, hn9, hmY, hcY, -, hlY, -⟩ := Cond.codeWith_spec h2
  cases Option.some.inj (hn9.symm.trans hn)
  obtain ⟨kY, hkY, -⟩ := className_of_methodNamed hn
  have hinitY : kY.init = .initialized := Cond.initialized_spec (findClass_of_methodNamed hn) hkY h3
  have h : At U g.method c below := by rw [hg]; exact X.here
  have hlocals9 : W9 + (maxL + 11) + (headSpec ws rm).room.locals ≤ R.locals := hlocals
  have happ : (headSpec ws rm).appliesLoose y e.platform (U.calling g mk a) = true :=
    Spec.appliesLoose_calling (g := g) h hdg hn hkY hinitY
      (X.room_calling (g := g) (R' := (headSpec ws rm).room) hsize hmY hcY hframes (by rw [hlY]; omega) h4 h5) h1
  obtain ⟨mid, hmid⟩ := h.above
  have hfr : (U.setTop g).frames = (.java g :: mid) ++ below := by rw [State.frames_setTop' g h.top, hmid]; rfl
  obtain ⟨o, s₂, hsteps, -, hend, hq⟩ := Steps.callFree hM p X.admits X.cas X.clock (acts := []) hfr happ hPc trivial
  have hq' : vx_Q Qc XC mc ms free a (U.calling g mk a) o s₂ := hq
  rw [State.frames_setTop' g h.top] at hend
  obtain ⟨g₀, hg0⟩ := Option.isSome_iff_exists.mp h.top
  obtain ⟨r, hr⟩ := State.topJava?_eq_some.mp hg0
  have hr' : (({ U with heap := s₂.heap, slotsUsed := s₂.slotsUsed } : State).setVm s₂.vm).frames = .java g₀ :: r := hr
  rcases hq' with ⟨hqc, L, hfe, hL⟩ | ⟨q, rfl, E, ce, L, hx, hce, hcv, hcl, hW₂, hsm, hL⟩
  · obtain ⟨⟨v, rfl⟩, hW₂, e2, q2, q3, q4, q5, q6⟩ := id hfe
    have e3 : s₂ = ({ (U.calling g mk a).setFrames s₂.frames with heap := s₂.heap, slotsUsed := s₂.slotsUsed } : State).setVm s₂.vm := by
      have : s₂ = ({ s₂ with vm := (U.calling g mk a).vm } : State).setVm s₂.vm := rfl
      rw [e2] at this
      exact this
    obtain ⟨c₂, i₂, len₂, hc₂, hd₂, hf₂⟩ := hend
    have hW' : U.WarmedH s₂.vm := hW₂
    have hcc : c₂ = c := by
      have h1 : s₂.code? g.method = U.code? g.method := by
        rw [State.code?_eq, State.code?_eq, hW'.alike.method?]
      exact Option.some.inj (hc₂.symm.trans (h1.trans h.code))
    subst hcc
    have hlen : len₂ = len := by rw [hdg] at hd₂; cases hd₂; rfl
    subst hlen
    have hs₂ : s₂ = (({ U with heap := s₂.heap, slotsUsed := s₂.slotsUsed } : State).setVm s₂.vm).setTop { g with pc := g.pc + len₂, stack := v.toList ++ g.stack } := by
      refine e3.trans ?_
      rw [hf₂, State.calling_eq h.top, State.setFrames_setFrames, State.setTop_of_frames _ hr', hr]
      rfl
    have hsame : U.sameButNew ({ U with heap := s₂.heap, slotsUsed := s₂.slotsUsed } : State) L mc ms := by
      refine ⟨?_, q2, q3, q4, q5, q6⟩
      obtain ⟨t, ht, -⟩ := State.frames_cons hr
      show ({ U with heap := s₂.heap, slotsUsed := s₂.slotsUsed } : State) = { U.setFrames U.frames with heap := s₂.heap, slotsUsed := s₂.slotsUsed }
      rw [State.setFrames_self ht]
    subst hg
    refine Or.inl ⟨v, ⟨(({ U with heap := s₂.heap, slotsUsed := s₂.slotsUsed } : State).setVm s₂.vm), Ls ++ L, c0 + mc, s0 + ms⟩,
      ⟨X.admits, X.cas, X.clock, X.frames, X.room, X.hears, X.method, X.code, (X.here.setHeapUsed s₂.heap s₂.slotsUsed).setVm hW'.alike, X.tail, State.WarmedH.trans X.warmed hW', X.limits, X.bytes, X.same.trans (hsame.setVm s.vm)⟩,
      ⟨g, mk, s₂, L, rfl, rfl, hqc, rfl, hL, rfl, rfl⟩, ?_⟩
    show Steps p.tables e below _ ((({ U with heap := s₂.heap, slotsUsed := s₂.slotsUsed } : State).setVm s₂.vm).setTop { g with pc := g.pc + len₂, stack := v.toList ++ g.stack })
    rw [← hs₂]
    exact hsteps
  · obtain ⟨e2, q2, q3, q4, q5, q6⟩ := id hsm
    have e3 : s₂ = ({ (U.calling g mk a).setFrames s₂.frames with heap := s₂.heap, slotsUsed := s₂.slotsUsed } : State).setVm s₂.vm := by
      have : s₂ = ({ s₂ with vm := (U.calling g mk a).vm } : State).setVm s₂.vm := rfl
      rw [e2] at this
      exact this
    have hf₂ : s₂.frames = .throwing q :: .java g :: U.frames.tail := hend
    have hW' : U.WarmedH s₂.vm := hW₂
    have hs₂ : s₂ = ((({ U with heap := s₂.heap, slotsUsed := s₂.slotsUsed } : State).setVm s₂.vm).setTop g).pushFrame (.throwing q) := by
      refine e3.trans ?_
      rw [hf₂, State.calling_eq h.top, State.setFrames_setFrames, State.pushFrame, State.frames_setTop _ hr', State.setTop_of_frames _ hr', State.setFrames_setFrames, hr]
      rfl
    have hsame : U.sameButNew ({ U with heap := s₂.heap, slotsUsed := s₂.slotsUsed } : State) L mc ms := by
      refine ⟨?_, q2, q3, q4, q5, q6⟩
      obtain ⟨t, ht, -⟩ := State.frames_cons hr
      show ({ U with heap := s₂.heap, slotsUsed := s₂.slotsUsed } : State) = { U.setFrames U.frames with heap := s₂.heap, slotsUsed := s₂.slotsUsed }
      rw [State.setFrames_self ht]
    subst hg
    refine Or.inr ⟨q, ⟨(({ U with heap := s₂.heap, slotsUsed := s₂.slotsUsed } : State).setVm s₂.vm), Ls ++ L, c0 + mc, s0 + ms⟩,
      ⟨X.admits, X.cas, X.clock, X.frames, X.room, X.hears, X.method, X.code, (X.here.setHeapUsed s₂.heap s₂.slotsUsed).setVm hW'.alike, X.tail, State.WarmedH.trans X.warmed hW', X.limits, X.bytes, X.same.trans (hsame.setVm s.vm)⟩,
      ⟨g, mk, s₂, L, E, ce, rfl, rfl, hx, hce, hcv, hcl, rfl, hL, rfl, rfl⟩, ?_⟩
    show Steps p.tables e below _ (((({ U with heap := s₂.heap, slotsUsed := s₂.slotsUsed } : State).setVm s₂.vm).setTop g).pushFrame (.throwing q))
    rw [← hs₂]
    exact hsteps
end
variable {p : Program} {l : Launch} {e : Env} {R : Room} {s : State} {m : MethodId} {args : Array Value} {below : List Frame} {meth : Method} {c : Code} {T : State} {H : Heap} {locs : List Loc} {cells slots : Nat}
theorem vx_callVX (X : Stand p l e R s m args below meth c T locs cells slots) (hexec : p.tables.exec = Jvm.exec) {own C : String} {index : Nat} {y : MethodName} {bytes : ByteArray} {maxL : Nat} {ret : Option FieldType} {hh : List (Nat × Nat × Nat × Nat)}
    (hown : s.vm.findClass own = some m.cls) (hlink : (Cond.methodLink own index y).before args s = true) (hinst : (Cond.instanceMethod y).before args s = true) (hsel : (Cond.selects C y y).before args s = true)
    (hcode : (Cond.codeWith y bytes maxL ret hh).before args s = true) (hy : y.cls ≠ "java/lang/invoke/MethodHandle" ∧ y.cls ≠ "java/lang/invoke/VarHandle")
    {W9 : Nat} {Pre : Pt → Array Value → Prop} {Post : Pt → Array Value → Option Value → Pt → Prop} {PostX : Pt → Array Value → Addr → Pt → Prop} (hK : vx_Back l R p e below s args y 3 W9 Pre Post PostX)
    {b : Addr} {cellB : Cell} (hcell : T.heap[b]? = some cellB) (hobj : cellB.vm.isStatics = false) (hcls : s.vm.findClass C = some cellB.cls)
    {g : JFrame} (hg : g.method = m) (hsize : g.locals.size = c.maxLocals) {argsL rest : List Value} (hlen : ∀ sig, parseMethodDescriptor y.desc = some sig → argsL.length = sig.parameters.length)
    (hstack : g.stack = argsL.reverse ++ .ref b :: rest) (hW : 2 * g.monitorRoom + (rest.map fun v => v.category).sum ≤ W9) (hdg : decode c.code g.pc = .ok (.invokevirtual index, 3))
    (hpre : ∀ vm₁, s.WarmedH vm₁ → Pre ⟨T.setVm vm₁, locs, cells, slots⟩ (Value.ref b :: argsL).toArray) :
    (∃ (v : Option Value) (vm₁ : Vm) (B : Pt), s.WarmedH vm₁ ∧ Stand p l e R s m args below meth c B.U B.locs B.cells B.slots ∧ Post ⟨T.setVm vm₁, locs, cells, slots⟩ (Value.ref b :: argsL).toArray v B ∧
      ∀ target, Steps p.tables e below (B.U.setTop { g with pc := g.pc + 3, stack := v.toList ++ rest }) target → Steps p.tables e below (T.setTop g) target) ∨
    (∃ (q : Addr) (vm₁ : Vm) (B : Pt), s.WarmedH vm₁ ∧ Stand p l e R s m args below meth c B.U B.locs B.cells B.slots ∧ PostX ⟨T.setVm vm₁, locs, cells, slots⟩ (Value.ref b :: argsL).toArray q B ∧
      Steps p.tables e below (T.setTop g) ((B.U.setTop { g with stack := rest }).pushFrame (.throwing q))) := by
  obtain ⟨mk, methM, hnamed, hmethM, hstM, habM⟩ := Cond.instanceMethod_spec hinst
  obtain ⟨m8, methM', cM, hn8, hmethM', -, -, -, -, -, -, hsigM⟩ := Cond.codeWith_spec hcode
  cases Option.some.inj (hn8.symm.trans hnamed)
  cases hmethM.symm.trans hmethM'
  obtain ⟨c2, r2, m2, q1, q2, q3, q4, kP, hkP, hkPi⟩ := Cond.selects_spec hsel
  cases hcls.symm.trans q1
  cases (State.methodFound?_of_named hnamed hy).symm.trans q2
  cases hnamed.symm.trans q3
  have hselP : selectMethod e.platform s.vm cellB.cls mk = .method mk := by rw [Launch.admits_selectMethod X.admits]; exact q4
  obtain ⟨vm₁, X₁, hstep₁⟩ := X.invokevirtual hexec hown hlink hnamed hmethM hstM hkP hkPi hy (a := b) (cell := cellB) hcell
    (fun z h => by rw [h] at hobj; cases hobj) hselP hmethM habM hkP hkPi (g := g) hg (argsL := argsL) (rest := rest) (hlen _ hsigM) hstack hdg
  rcases hK m meth c ⟨T.setVm vm₁, locs, cells, slots⟩ { g with stack := rest } (.invokevirtual index) mk (Value.ref b :: argsL).toArray X₁ hg hsize hdg hW (X₁.named hnamed) (hpre vm₁ X₁.warmed) with ⟨v, B, X', hpost, hsteps⟩ | ⟨q, B, X', hpost, hsteps⟩
  · exact Or.inl ⟨v, vm₁, B, X₁.warmed, X', hpost, fun target h => hstep₁ _ fun acts => by rw [doInvoke_state]; exact hsteps.trans h⟩
  · exact Or.inr ⟨q, vm₁, B, X₁.warmed, X', hpost, hstep₁ _ fun acts => by rw [doInvoke_state]; exact hsteps⟩
theorem vx_callSX (X : Stand p l e R s m args below meth c T locs cells slots) (hexec : p.tables.exec = Jvm.exec) {own : String} {index : Nat} {y : MethodName} {bytes : ByteArray} {maxL : Nat} {ret : Option FieldType} {hh : List (Nat × Nat × Nat × Nat)}
    (hown : s.vm.findClass own = some m.cls) (hlink : (Cond.methodLink own index y).before args s = true) (hstat : (Cond.static y).before args s = true) (hinit : (Cond.initialized y.cls).before args s = true)
    (hcode : (Cond.codeWith y bytes maxL ret hh).before args s = true) (hy : y.cls ≠ "java/lang/invoke/MethodHandle" ∧ y.cls ≠ "java/lang/invoke/VarHandle")
    {W9 : Nat} {Pre : Pt → Array Value → Prop} {Post : Pt → Array Value → Option Value → Pt → Prop} {PostX : Pt → Array Value → Addr → Pt → Prop} (hK : vx_Back l R p e below s args y 3 W9 Pre Post PostX)
    {g : JFrame} (hg : g.method = m) (hsize : g.locals.size = c.maxLocals) {argsL rest : List Value} (hlen : ∀ sig, parseMethodDescriptor y.desc = some sig → argsL.length = sig.parameters.length)
    (hstack : g.stack = argsL.reverse ++ rest) (hW : 2 * g.monitorRoom + (rest.map fun v => v.category).sum ≤ W9) (hdg : decode c.code g.pc = .ok (.invokestatic index, 3))
    (hpre : ∀ vm₁, s.WarmedH vm₁ → Pre ⟨T.setVm vm₁, locs, cells, slots⟩ argsL.toArray) :
    (∃ (v : Option Value) (vm₁ : Vm) (B : Pt), s.WarmedH vm₁ ∧ Stand p l e R s m args below meth c B.U B.locs B.cells B.slots ∧ Post ⟨T.setVm vm₁, locs, cells, slots⟩ argsL.toArray v B ∧
      ∀ target, Steps p.tables e below (B.U.setTop { g with pc := g.pc + 3, stack := v.toList ++ rest }) target → Steps p.tables e below (T.setTop g) target) ∨
    (∃ (q : Addr) (vm₁ : Vm) (B : Pt), s.WarmedH vm₁ ∧ Stand p l e R s m args below meth c B.U B.locs B.cells B.slots ∧ PostX ⟨T.setVm vm₁, locs, cells, slots⟩ argsL.toArray q B ∧
      Steps p.tables e below (T.setTop g) ((B.U.setTop { g with stack := rest }).pushFrame (.throwing q))) := by
  obtain ⟨mk, methM, cM, hnamed, hmethM, -, -, -, -, -, -, hsigM⟩ := Cond.codeWith_spec hcode
  have hstatic : methM.isStatic = true := Cond.static_spec hnamed hmethM hstat
  obtain ⟨kP, hkP, -⟩ := className_of_methodNamed hnamed
  have hinitP : kP.init = .initialized := Cond.initialized_spec (findClass_of_methodNamed hnamed) hkP hinit
  obtain ⟨vm₁, X₁, hstep₁⟩ := X.invokestatic hexec hown hlink hnamed hmethM hstatic hkP hinitP hy (g := g) hg (argsL := argsL) (rest := rest) (hlen _ hsigM) hstack hdg
  rcases hK m meth c ⟨T.setVm vm₁, locs, cells, slots⟩ { g with stack := rest } (.invokestatic index) mk argsL.toArray X₁ hg hsize hdg hW (X₁.named hnamed) (hpre vm₁ X₁.warmed) with ⟨v, B, X', hpost, hsteps⟩ | ⟨q, B, X', hpost, hsteps⟩
  · exact Or.inl ⟨v, vm₁, B, X₁.warmed, X', hpost, fun target h => hstep₁ _ fun acts => by rw [doInvoke_state]; exact hsteps.trans h⟩
  · exact Or.inr ⟨q, vm₁, B, X₁.warmed, X', hpost, hstep₁ _ fun acts => by rw [doInvoke_state]; exact hsteps⟩
theorem vx_callVW (X : Stand p l e R s m args below meth c T locs cells slots) (hexec : p.tables.exec = Jvm.exec) {own C : String} {index : Nat} {y : MethodName} {bytes : ByteArray} {maxL : Nat} {ret : Option FieldType} {hh : List (Nat × Nat × Nat × Nat)}
    (hown : s.vm.findClass own = some m.cls) (hlink : (Cond.methodLink own index y).before args s = true) (hinst : (Cond.instanceMethod y).before args s = true) (hsel : (Cond.selects C y y).before args s = true)
    (hcode : (Cond.codeWith y bytes maxL ret hh).before args s = true) (hy : y.cls ≠ "java/lang/invoke/MethodHandle" ∧ y.cls ≠ "java/lang/invoke/VarHandle")
    {W9 : Nat} {Pre : Pt → Array Value → Prop} {Post : Pt → Array Value → Option Value → Pt → Prop} (hK : Back l R p e below s args y 3 W9 Pre Post)
    {b : Addr} {cellB : Cell} (hcell : T.heap[b]? = some cellB) (hobj : cellB.vm.isStatics = false) (hcls : s.vm.findClass C = some cellB.cls)
    {g : JFrame} (hg : g.method = m) (hsize : g.locals.size = c.maxLocals) {argsL rest : List Value} (hlen : ∀ sig, parseMethodDescriptor y.desc = some sig → argsL.length = sig.parameters.length)
    (hstack : g.stack = argsL.reverse ++ .ref b :: rest) (hW : 2 * g.monitorRoom + (rest.map fun v => v.category).sum ≤ W9) (hdg : decode c.code g.pc = .ok (.invokevirtual index, 3))
    (hpre : ∀ vm₁, s.WarmedH vm₁ → Pre ⟨T.setVm vm₁, locs, cells, slots⟩ (Value.ref b :: argsL).toArray) :
    ∃ (v : Option Value) (vm₁ : Vm) (B : Pt), s.WarmedH vm₁ ∧ Stand p l e R s m args below meth c B.U B.locs B.cells B.slots ∧ Post ⟨T.setVm vm₁, locs, cells, slots⟩ (Value.ref b :: argsL).toArray v B ∧
      ∀ target, Steps p.tables e below (B.U.setTop { g with pc := g.pc + 3, stack := v.toList ++ rest }) target → Steps p.tables e below (T.setTop g) target := by
  obtain ⟨mk, methM, hnamed, hmethM, hstM, habM⟩ := Cond.instanceMethod_spec hinst
  obtain ⟨m8, methM', cM, hn8, hmethM', -, -, -, -, -, -, hsigM⟩ := Cond.codeWith_spec hcode
  cases Option.some.inj (hn8.symm.trans hnamed)
  cases hmethM.symm.trans hmethM'
  obtain ⟨c2, r2, m2, q1, q2, q3, q4, kP, hkP, hkPi⟩ := Cond.selects_spec hsel
  cases hcls.symm.trans q1
  cases (State.methodFound?_of_named hnamed hy).symm.trans q2
  cases hnamed.symm.trans q3
  have hselP : selectMethod e.platform s.vm cellB.cls mk = .method mk := by rw [Launch.admits_selectMethod X.admits]; exact q4
  obtain ⟨vm₁, X₁, hstep₁⟩ := X.invokevirtual hexec hown hlink hnamed hmethM hstM hkP hkPi hy (a := b) (cell := cellB) hcell
    (fun z h => by rw [h] at hobj; cases hobj) hselP hmethM habM hkP hkPi (g := g) hg (argsL := argsL) (rest := rest) (hlen _ hsigM) hstack hdg
  obtain ⟨v, B, X', hpost, hsteps⟩ := hK m meth c ⟨T.setVm vm₁, locs, cells, slots⟩ { g with stack := rest } (.invokevirtual index) mk (Value.ref b :: argsL).toArray X₁ hg hsize hdg hW (X₁.named hnamed) (hpre vm₁ X₁.warmed)
  exact ⟨v, vm₁, B, X₁.warmed, X', hpost, fun target h => hstep₁ _ fun acts => by rw [doInvoke_state]; exact hsteps.trans h⟩
abbrev vx_CVW (R : Room) (s : State) (args : Array Value) (own C : String) (index : Nat) (y : MethodName) (bytes : ByteArray) (maxL : Nat) (ret : Option FieldType) (hh : List (Nat × Nat × Nat × Nat)) (ws : List Cond) (rm : Room) (mc ms n : Nat) : Prop :=
  (rm.cells = mc ∧ rm.slots = ms ∧ rm.frames + 1 ≤ R.frames ∧ 8 + (maxL + 11) + rm.locals ≤ R.locals ∧ (∀ w ∈ ws, ∀ (a' : Array Value) (U : State), s.WarmedH U.vm → w.before a' U = true) ∧ Cond.codeWith y bytes maxL ret hh ∈ ws) ∧
  (Cond.codeWith y bytes maxL ret hh).before args s = true ∧ (Cond.initialized y.cls).before args s = true ∧ (y.cls ≠ "java/lang/invoke/MethodHandle" ∧ y.cls ≠ "java/lang/invoke/VarHandle") ∧
  (∀ sig, parseMethodDescriptor y.desc = some sig → n = sig.parameters.length) ∧ (Cond.methodLink own index y).before args s = true ∧ (Cond.instanceMethod y).before args s = true ∧ (Cond.selects C y y).before args s = true
theorem vx_cwVW {own C : String} {index maxL mc ms : Nat} {y : MethodName} {bytes : ByteArray} {ret : Option FieldType} {hh : List (Nat × Nat × Nat × Nat)} {Ts ws ws' : List Cond} {rm : Room} (n : Nat) (ht : ∀ w ∈ Ts, w.before args s = true) (hT : GoodIn Ts (wsV own index C y ws)) (hw : ws = Cond.codeWith y bytes maxL ret hh :: ws') (hrc : rm.cells = mc) (hrs : rm.slots = ms)
    (hd : y.cls = C ∧ y.cls ≠ "java/lang/invoke/MethodHandle" ∧ y.cls ≠ "java/lang/invoke/VarHandle" ∧ (parseMethodDescriptor y.desc).map (fun d => d.parameters.length) = some n) (hR : rm.frames + 1 ≤ R.frames ∧ 8 + (maxL + 11) + rm.locals ≤ R.locals) :
    vx_CVW R s args own C index y bytes maxL ret hh ws rm mc ms n := by
  obtain ⟨hC, hd⟩ := hd
  subst hC
  have ok : ∀ w ∈ wsV own index y.cls y ws, w.before args s = true := fun w h => ht w (hT w h).1
  have hG : GoodIn Ts ws := fun w h => hT w (by unfold wsV; exact List.mem_append_right _ h)
  have hc : Cond.codeWith y bytes maxL ret hh ∈ ws := by rw [hw]; exact List.mem_cons_self
  refine ⟨⟨hrc, hrs, hR.1, hR.2, pay_in ht hG, hc⟩, ht _ (hG _ hc).1, ok _ (by simp [wsV]), ⟨hd.1, hd.2.1⟩, fun sig h => ?_, ok _ (by simp [wsV]), ok _ (by simp [wsV]), ok _ (by simp [wsV])⟩
  have h2 := hd.2.2
  rw [h] at h2
  exact (Option.some.inj h2).symm
theorem vx_runVW {y : MethodName} {bytes cc : ByteArray} {maxL nL mc ms n index : Nat} {ret : Option FieldType} {hh : List (Nat × Nat × Nat × Nat)} {ws : List Cond} {rm : Room} {Pc : Array Value → State → Prop} {Qc : Array Value → State → Outcome → State → Prop} {free : Addr → Prop} {Ts : List Cond} {own C : String} {b : Addr} {As rest : List Value} {g : JFrame}
    (S : CallFix p m c cc nL s args Ts own) (hM : Met l y ws rm Pc Qc mc ms free) (cw : vx_CVW R s args own C index y bytes maxL ret hh ws rm mc ms n) (hp : PreV s H C b Pc As)
    (hg : g.method = m) (hn : As.length = n) (hsize : g.locals.size = nL) (hstack : g.stack = As.reverse ++ .ref b :: rest) (hW : 2 * g.monitorRoom + (rest.map fun v => v.category).sum ≤ 8) (hdg : decode cc g.pc = .ok (.invokevirtual index, 3)) (hf : cells + mc ≤ R.cells ∧ slots + ms ≤ R.slots) :
    va_Run p l e R s m args below meth c H locs cells slots mc ms g rest (Qc (Value.ref b :: As).toArray) free := by
  obtain ⟨⟨hrc, hrs, hfr, hlo, hws, hcw⟩, hcode, hini, hy, hlen, hl, hin, hse⟩ := cw
  have hK : Back l R p e below s args y 3 8 (PreOf R mc ms Pc) (PostOf Qc mc ms free) := va_backW (hh := hh) (bytes := bytes) (maxL := maxL) (ret := ret) hM hp.1 hrc hrs hfr hlo hws hcw (fun a' U hW => word_at hW (Or.inl (by first | rfl | simp [Cond.onTables, Cond.keeps, Cond.steady])) hini)
  obtain ⟨hx, hb, hml, ho, -⟩ := S
  obtain ⟨-, ⟨cellB, hcB, hoB, hclB⟩, hPc⟩ := hp
  intro T hT X
  obtain ⟨v, vm₁, ⟨U', l2, c2, s2⟩, hW₁, X', ⟨g', mk, t, L, e1, e2, hq, h1, hL, h2, h3⟩, st⟩ := vx_callVW X hx (C := C) (hh := hh) (bytes := bytes) (maxL := maxL) (ret := ret) ho hl hin hse hcode hy hK (by rw [hT]; exact hcB) hoB hclB hg (hsize.trans hml.symm) (argsL := As) (rest := rest) (fun sig h => hn.trans (hlen sig h)) hstack hW (by rw [hb]; exact hdg)
    (fun vm₁ hW₁ => ⟨hf.1, hf.2, hPc (T.setVm vm₁) hT hW₁⟩)
  dsimp only [Pt.U, Pt.locs, Pt.cells, Pt.slots] at X' e1 e2 h1 h2 h3 st
  subst h1; subst h2; subst h3
  exact ⟨v, (T.setVm vm₁).calling g' mk (Value.ref b :: As).toArray, t, U', L, hT, X', hL, e1, e2, hq, st⟩
section
variable {y : MethodName} {bytes cc : ByteArray} {maxL nL mc ms n index : Nat} {ret : Option FieldType} {ws : List Cond} {rm : Room} {Pc : Array Value → State → Prop} {Qc : Array Value → State → Outcome → State → Prop} {XC : String → State → State → Prop} {free : Addr → Prop} {Ts : List Cond} {own C : String} {b : Addr} {As rest : List Value} {g : JFrame}
theorem vx_runVX {hh : List (Nat × Nat × Nat × Nat)} (S : CallFix p m c cc nL s args Ts own) (hM : vx_Met l y ws rm Pc Qc XC mc ms free) (cw : vx_CVW R s args own C index y bytes maxL ret hh ws rm mc ms n) (hp : PreV s H C b Pc As)
    (hg : g.method = m) (hn : As.length = n) (hsize : g.locals.size = nL) (hstack : g.stack = As.reverse ++ .ref b :: rest) (hW : 2 * g.monitorRoom + (rest.map fun v => v.category).sum ≤ 8) (hdg : decode cc g.pc = .ok (.invokevirtual index, 3)) (hf : cells + mc ≤ R.cells ∧ slots + ms ≤ R.slots) :
    vx_Run p l e R s m args below meth c H locs cells slots mc ms g rest (Qc (Value.ref b :: As).toArray) XC free := by
  obtain ⟨⟨hrc, hrs, hfr, hlo, hws, hcw⟩, hcode, hini, hy, hlen, hl, hin, hse⟩ := cw
  have hK : vx_Back l R p e below s args y 3 8 (PreOf R mc ms Pc) (PostOf Qc mc ms free) (vx_Post XC mc ms free) := vx_backW (hh := hh) (bytes := bytes) (maxL := maxL) (ret := ret) hM hp.1 hrc hrs hfr hlo hws hcw (fun a' U hW => word_at hW (Or.inl (by first | rfl | simp [Cond.onTables, Cond.keeps, Cond.steady])) hini)
  obtain ⟨hx, hb, hml, ho, -⟩ := S
  obtain ⟨-, ⟨cellB, hcB, hoB, hclB⟩, hPc⟩ := hp
  intro T hT X
  rcases vx_callVX X hx (C := C) (hh := hh) (bytes := bytes) (maxL := maxL) (ret := ret) ho hl hin hse hcode hy hK (by rw [hT]; exact hcB) hoB hclB hg (hsize.trans hml.symm) (argsL := As) (rest := rest) (fun sig h => hn.trans (hlen sig h)) hstack hW (by rw [hb]; exact hdg)
    (fun vm₁ hW₁ => ⟨hf.1, hf.2, hPc (T.setVm vm₁) hT hW₁⟩) with ⟨v, vm₁, ⟨U', l2, c2, s2⟩, hW₁, X', ⟨g', mk, t, L, e1, e2, hq, h1, hL, h2, h3⟩, st⟩ | ⟨q, vm₁, ⟨U', l2, c2, s2⟩, hW₁, X', ⟨g', mk, t, L, E, ce, e1, e2, hq, hce, hcv, hcl, h1, hL, h2, h3⟩, st⟩
  · dsimp only [Pt.U, Pt.locs, Pt.cells, Pt.slots] at X' e1 e2 h1 h2 h3 st
    subst h1; subst h2; subst h3
    exact Or.inl ⟨v, (T.setVm vm₁).calling g' mk (Value.ref b :: As).toArray, t, U', L, hT, X', hL, e1, e2, hq, st⟩
  · dsimp only [Pt.U, Pt.locs, Pt.cells, Pt.slots] at X' e1 e2 h1 h2 h3 st hcl
    subst h1; subst h2; subst h3
    exact Or.inr ⟨q, (T.setVm vm₁).calling g' mk (Value.ref b :: As).toArray, t, U', L, E, ce, hT, X', hL, e1, e2, hq, hce, hcv, vx_cls hW₁ hcl, st⟩
theorem vx_runSX {hh : List (Nat × Nat × Nat × Nat)} (S : CallFix p m c cc nL s args Ts own) (hM : vx_Met l y ws rm Pc Qc XC mc ms free) (cw : vx_CSW R s args own index y bytes maxL ret hh ws rm mc ms n) (hp : PreS s H Pc As)
    (hg : g.method = m) (hn : As.length = n) (hsize : g.locals.size = nL) (hstack : g.stack = As.reverse ++ rest) (hW : 2 * g.monitorRoom + (rest.map fun v => v.category).sum ≤ 8) (hdg : decode cc g.pc = .ok (.invokestatic index, 3)) (hf : cells + mc ≤ R.cells ∧ slots + ms ≤ R.slots) :
    vx_Run p l e R s m args below meth c H locs cells slots mc ms g rest (Qc As.toArray) XC free := by
  obtain ⟨⟨hrc, hrs, hfr, hlo, hws, hcw⟩, hcode, hini, hy, hlen, hl, hstt⟩ := cw
  have hK : vx_Back l R p e below s args y 3 8 (PreOf R mc ms Pc) (PostOf Qc mc ms free) (vx_Post XC mc ms free) := vx_backW (hh := hh) (bytes := bytes) (maxL := maxL) (ret := ret) hM hp.1 hrc hrs hfr hlo hws hcw (fun a' U hW => word_at hW (Or.inl (by first | rfl | simp [Cond.onTables, Cond.keeps, Cond.steady])) hini)
  obtain ⟨hx, hb, hml, ho, -⟩ := S
  intro T hT X
  rcases vx_callSX X hx (hh := hh) (bytes := bytes) (maxL := maxL) (ret := ret) ho hl hstt hini hcode hy hK hg (hsize.trans hml.symm) (argsL := As) (rest := rest) (fun sig h => hn.trans (hlen sig h)) hstack hW (by rw [hb]; exact hdg)
    (fun vm₁ hW₁ => ⟨hf.1, hf.2, hp.2 (T.setVm vm₁) hT hW₁⟩) with ⟨v, vm₁, ⟨U', l2, c2, s2⟩, hW₁, X', ⟨g', mk, t, L, e1, e2, hq, h1, hL, h2, h3⟩, st⟩ | ⟨q, vm₁, ⟨U', l2, c2, s2⟩, hW₁, X', ⟨g', mk, t, L, E, ce, e1, e2, hq, hce, hcv, hcl, h1, hL, h2, h3⟩, st⟩
  · dsimp only [Pt.U, Pt.locs, Pt.cells, Pt.slots] at X' e1 e2 h1 h2 h3 st
    subst h1; subst h2; subst h3
    exact Or.inl ⟨v, (T.setVm vm₁).calling g' mk As.toArray, t, U', L, hT, X', hL, e1, e2, hq, st⟩
  · dsimp only [Pt.U, Pt.locs, Pt.cells, Pt.slots] at X' e1 e2 h1 h2 h3 st hcl
    subst h1; subst h2; subst h3
    exact Or.inr ⟨q, (T.setVm vm₁).calling g' mk As.toArray, t, U', L, E, ce, hT, X', hL, e1, e2, hq, hce, hcv, vx_cls hW₁ hcl, st⟩
end
end VXH
theorem vx_ofWH {l : Launch} {y : MethodName} {ws ws' : List Cond} {rm : Room} {Pc : Array Value → State → Prop} {Qc : Array Value → State → Outcome → State → Prop} {XC : String → State → State → Prop} {mc ms : Nat} {free : Addr → Prop} {cc : ByteArray} {maxL : Nat} {ret : Option FieldType} {hh : List (Nat × Nat × Nat × Nat)}
    (hy : plainName y.cls = true) (hw : ws = Cond.codeWith y cc maxL ret hh :: ws')
    (body : ∀ p e s m args below meth c s₁, BodyLoose p l y (headSpec ws rm) cc maxL ret e s m args below meth c s₁ → c.maxLocals = maxL → Pc args s →
      W p l e (headSpec ws rm).room s m args below meth c s.heap [] 0 0 (vx_MQ below Qc XC args s mc ms free) (entryFrame m args maxL)) : vx_Met l y ws rm Pc Qc XC mc ms free := by
  refine MetFree.of_bodyS (code := cc) (maxLocals := maxL) (ret := ret) hy ?_ ?_
  · intro args s m h hn
    obtain ⟨m9, meth, c, hn9, h1, h2, h3, h4, -, h5, h6, -⟩ := Cond.codeWith_spec (atoms_spec (ws := ws) h _ (by rw [hw]; exact List.mem_cons_self))
    cases hn.symm.trans hn9
    exact ⟨meth, c, h1, h2, h3, h4, h5, h6⟩
  · intro p e s m args below meth c s₁ B hml hP _
    have hh0 : s₁.heap = s.heap := by rw [B.state]; rfl
    obtain ⟨t, a1, o, b1, b2, b3⟩ := body p e s m args below meth c s₁ B hml hP s₁ hh0 (Stand.of_body B)
    exact ⟨t, o, a1, b1, b2, b3⟩
/-! ===== END ===== -/
end
section
/-! ===== BEGIN printed: names, fields, word lists, decode rows ===== -/
def RX0 : String := "HallSights$Hall"
def TX0 : u_T := fun k => match k with
  | 0 => ("HallSights$Hall", "rows", "I", false)
  | 1 => ("HallSights$Hall", "distances", "[I", true)
  | 2 => ("HallSights$Hall", "heights", "[I", true)
  | 3 => ("HallSights$Hall", "seats", "[I", true)
  | 4 => ("HallSights$Hall", "taken", "[I", true)
  | 5 => ("HallSights$Hall", "columns", "I", false)
  | 6 => ("HallSights$Hall", "columnDistances", "[I", true)
  | 7 => ("HallSights$Hall", "columnSides", "[I", true)
  | 8 => ("HallSights$Hall", "columnHalves", "[I", true)
  | _ => ("HallSights$Hall", "settings", "[I", true)
def tyX0 : Nat → FieldType := fun k => match k with
  | 0 => .int
  | 1 => .array .int
  | 2 => .array .int
  | 3 => .array .int
  | 4 => .array .int
  | 5 => .int
  | 6 => .array .int
  | 7 => .array .int
  | 8 => .array .int
  | _ => .array .int
abbrev wsX00 : List Cond := u_ws RX0 TX0 10
theorem nmX0 : ∀ a, a < 10 → ∀ b, b < 10 → a ≠ b → (TX0 a).2.1 ≠ (TX0 b).2.1 := by decide +kernel
theorem tyX0_ok : ∀ k, k < 10 → parseFieldDescriptor (TX0 k).2.2.1 = some (tyX0 k) := by decide +kernel
abbrev cX0_init : ByteArray := prog_2_method_1_code
def yX0_init : MethodName := ⟨RX0, "<init>", "()V"⟩
abbrev cX0_copyFrom : ByteArray := prog_2_method_2_code
def yX0_copyFrom : MethodName := ⟨RX0, "copyFrom", "(LHallSights$Hall;)V"⟩
abbrev cX0_hasRoomForRow : ByteArray := prog_2_method_3_code
def yX0_hasRoomForRow : MethodName := ⟨RX0, "hasRoomForRow", "(I)Z"⟩
abbrev cX0_insertRow : ByteArray := prog_2_method_4_code
def yX0_insertRow : MethodName := ⟨RX0, "insertRow", "(III)I"⟩
abbrev cX0_deleteRow : ByteArray := prog_2_method_5_code
def yX0_deleteRow : MethodName := ⟨RX0, "deleteRow", "(I)V"⟩
abbrev cX0_moveRow : ByteArray := prog_2_method_6_code
def yX0_moveRow : MethodName := ⟨RX0, "moveRow", "(II)V"⟩
abbrev cX0_insertColumn : ByteArray := prog_2_method_7_code
def yX0_insertColumn : MethodName := ⟨RX0, "insertColumn", "(III)I"⟩
abbrev cX0_deleteColumn : ByteArray := prog_2_method_8_code
def yX0_deleteColumn : MethodName := ⟨RX0, "deleteColumn", "(I)V"⟩
abbrev cX0_isTaken : ByteArray := prog_2_method_9_code
def yX0_isTaken : MethodName := ⟨RX0, "isTaken", "(II)Z"⟩
abbrev cX0_areFree : ByteArray := prog_2_method_10_code
def yX0_areFree : MethodName := ⟨RX0, "areFree", "(III)Z"⟩
abbrev cX0_occupy : ByteArray := prog_2_method_11_code
def yX0_occupy : MethodName := ⟨RX0, "occupy", "(III)V"⟩
abbrev cX0_vacate : ByteArray := prog_2_method_12_code
def yX0_vacate : MethodName := ⟨RX0, "vacate", "(II)V"⟩
abbrev cX0_vacateAll : ByteArray := prog_2_method_13_code
def yX0_vacateAll : MethodName := ⟨RX0, "vacateAll", "()V"⟩
abbrev cX0_bitsOf : ByteArray := prog_2_method_14_code
def yX0_bitsOf : MethodName := ⟨RX0, "bitsOf", "(II)I"⟩
abbrev cX0_takenInRow : ByteArray := prog_2_method_15_code
def yX0_takenInRow : MethodName := ⟨RX0, "takenInRow", "(I)I"⟩
abbrev cX0_takenInAll : ByteArray := prog_2_method_16_code
def yX0_takenInAll : MethodName := ⟨RX0, "takenInAll", "()I"⟩
abbrev cX0_seatsInAll : ByteArray := prog_2_method_17_code
def yX0_seatsInAll : MethodName := ⟨RX0, "seatsInAll", "()I"⟩
abbrev cX0_longestFree : ByteArray := prog_2_method_18_code
def yX0_longestFree : MethodName := ⟨RX0, "longestFree", "()I"⟩
abbrev cX0_sideOf : ByteArray := prog_2_method_19_code
def yX0_sideOf : MethodName := ⟨RX0, "sideOf", "(II)I"⟩
abbrev cX0_isHeadInWay : ByteArray := prog_2_method_20_code
def yX0_isHeadInWay : MethodName := ⟨RX0, "isHeadInWay", "(IIII)Z"⟩
abbrev cX0_eyeOverPoint : ByteArray := prog_2_method_21_code
def yX0_eyeOverPoint : MethodName := ⟨RX0, "eyeOverPoint", "(I)I"⟩
abbrev cX0_headOverPoint : ByteArray := prog_2_method_22_code
def yX0_headOverPoint : MethodName := ⟨RX0, "headOverPoint", "(I)I"⟩
abbrev cX0_isColumnInWay : ByteArray := prog_2_method_23_code
def yX0_isColumnInWay : MethodName := ⟨RX0, "isColumnInWay", "(III)Z"⟩
abbrev cX0_peopleInWay : ByteArray := prog_2_method_24_code
def yX0_peopleInWay : MethodName := ⟨RX0, "peopleInWay", "(II)I"⟩
abbrev cX0_columnsInWay : ByteArray := prog_2_method_25_code
def yX0_columnsInWay : MethodName := ⟨RX0, "columnsInWay", "(II)I"⟩
abbrev cX0_takenBehind : ByteArray := prog_2_method_27_code
def yX0_takenBehind : MethodName := ⟨RX0, "takenBehind", "(II)I"⟩
abbrev cX0_seatsBehindColumn : ByteArray := prog_2_method_28_code
def yX0_seatsBehindColumn : MethodName := ⟨RX0, "seatsBehindColumn", "(I)I"⟩
def RX1 : String := "HallSights$History"
def TX1 : u_T := fun k => match k with
  | 0 => ("HallSights$History", "kept", "[LHallSights$Hall;", true)
  | _ => ("HallSights$History", "size", "I", false)
def tyX1 : Nat → FieldType := fun k => match k with
  | 0 => .array (.object "HallSights$Hall")
  | _ => .int
abbrev wsX10 : List Cond := u_ws RX1 TX1 2
theorem nmX1 : ∀ a, a < 2 → ∀ b, b < 2 → a ≠ b → (TX1 a).2.1 ≠ (TX1 b).2.1 := by decide +kernel
theorem tyX1_ok : ∀ k, k < 2 → parseFieldDescriptor (TX1 k).2.2.1 = some (tyX1 k) := by decide +kernel
abbrev cX1_init : ByteArray := prog_3_method_1_code
def yX1_init : MethodName := ⟨RX1, "<init>", "()V"⟩
abbrev cX1_keep : ByteArray := prog_3_method_2_code
def yX1_keep : MethodName := ⟨RX1, "keep", "(LHallSights$Hall;)V"⟩
abbrev cX1_dropOldest : ByteArray := prog_3_method_3_code
def yX1_dropOldest : MethodName := ⟨RX1, "dropOldest", "()V"⟩
def RX2 : String := "HallSights$RowsText"
def TX2 : u_T := fun k => match k with
  | 0 => ("HallSights$RowsText", "signs", "[C", true)
  | 1 => ("HallSights$RowsText", "length", "I", false)
  | 2 => ("HallSights$RowsText", "numbers", "[I", true)
  | 3 => ("HallSights$RowsText", "last", "I", false)
  | _ => ("HallSights$RowsText", "begun", "Z", false)
def tyX2 : Nat → FieldType := fun k => match k with
  | 0 => .array .char
  | 1 => .int
  | 2 => .array .int
  | 3 => .int
  | _ => .boolean
abbrev wsX20 : List Cond := u_ws RX2 TX2 5
theorem nmX2 : ∀ a, a < 5 → ∀ b, b < 5 → a ≠ b → (TX2 a).2.1 ≠ (TX2 b).2.1 := by decide +kernel
theorem tyX2_ok : ∀ k, k < 5 → parseFieldDescriptor (TX2 k).2.2.1 = some (tyX2 k) := by decide +kernel
abbrev cX2_init : ByteArray := prog_4_method_1_code
def yX2_init : MethodName := ⟨RX2, "<init>", "()V"⟩
def RX3 : String := "HallSights$Survey"
def TX3 : u_T := fun k => match k with
  | 0 => ("HallSights$Survey", "hall", "LHallSights$Hall;", true)
  | 1 => ("HallSights$Survey", "looked", "Z", false)
  | 2 => ("HallSights$Survey", "people", "[I", true)
  | 3 => ("HallSights$Survey", "columns", "[I", true)
  | _ => ("HallSights$Survey", "ranks", "[I", true)
def tyX3 : Nat → FieldType := fun k => match k with
  | 0 => .object "HallSights$Hall"
  | 1 => .boolean
  | 2 => .array .int
  | 3 => .array .int
  | _ => .array .int
abbrev wsX30 : List Cond := u_ws RX3 TX3 5
theorem nmX3 : ∀ a, a < 5 → ∀ b, b < 5 → a ≠ b → (TX3 a).2.1 ≠ (TX3 b).2.1 := by decide +kernel
theorem tyX3_ok : ∀ k, k < 5 → parseFieldDescriptor (TX3 k).2.2.1 = some (tyX3 k) := by decide +kernel
abbrev cX3_init : ByteArray := prog_5_method_1_code
def yX3_init : MethodName := ⟨RX3, "<init>", "()V"⟩
abbrev cX3_forget : ByteArray := prog_5_method_2_code
def yX3_forget : MethodName := ⟨RX3, "forget", "()V"⟩
abbrev cX3_look : ByteArray := prog_5_method_3_code
def yX3_look : MethodName := ⟨RX3, "look", "()V"⟩
abbrev cX3_cellOf : ByteArray := prog_5_method_4_code
def yX3_cellOf : MethodName := ⟨RX3, "cellOf", "(II)I"⟩
abbrev cX3_rankOf : ByteArray := prog_5_method_5_code
def yX3_rankOf : MethodName := ⟨RX3, "rankOf", "(II)I"⟩
abbrev cX3_allInWay : ByteArray := prog_5_method_6_code
def yX3_allInWay : MethodName := ⟨RX3, "allInWay", "(II)I"⟩
abbrev cX3_sees : ByteArray := prog_5_method_7_code
def yX3_sees : MethodName := ⟨RX3, "sees", "(II)Z"⟩
abbrev cX3_seeingInRow : ByteArray := prog_5_method_8_code
def yX3_seeingInRow : MethodName := ⟨RX3, "seeingInRow", "(I)I"⟩
abbrev cX3_seeing : ByteArray := prog_5_method_9_code
def yX3_seeing : MethodName := ⟨RX3, "seeing", "()I"⟩
abbrev cX3_takenSeeing : ByteArray := prog_5_method_10_code
def yX3_takenSeeing : MethodName := ⟨RX3, "takenSeeing", "()I"⟩
abbrev cX3_pairsInWay : ByteArray := prog_5_method_11_code
def yX3_pairsInWay : MethodName := ⟨RX3, "pairsInWay", "()I"⟩
abbrev cX3_placeOf : ByteArray := prog_5_method_12_code
def yX3_placeOf : MethodName := ⟨RX3, "placeOf", "(IIZ)I"⟩
abbrev cX3_placeForParty : ByteArray := prog_5_method_14_code
def yX3_placeForParty : MethodName := ⟨RX3, "placeForParty", "(I)I"⟩
abbrev cX3_allInWayOfParty : ByteArray := prog_5_method_15_code
def yX3_allInWayOfParty : MethodName := ⟨RX3, "allInWayOfParty", "(III)I"⟩
def RX4 : String := "HallSights"
def TX4 : u_T := fun k => match k with
  | 0 => ("HallSights", "survey", "LHallSights$Survey;", true)
  | 1 => ("HallSights", "hall", "LHallSights$Hall;", true)
  | 2 => ("HallSights", "trial", "LHallSights$Survey;", true)
  | 3 => ("HallSights", "history", "LHallSights$History;", true)
  | _ => ("HallSights", "text", "LHallSights$RowsText;", true)
def tyX4 : Nat → FieldType := fun k => match k with
  | 0 => .object "HallSights$Survey"
  | 1 => .object "HallSights$Hall"
  | 2 => .object "HallSights$Survey"
  | 3 => .object "HallSights$History"
  | _ => .object "HallSights$RowsText"
abbrev wsX40 : List Cond := u_ws RX4 TX4 5
theorem nmX4 : ∀ a, a < 5 → ∀ b, b < 5 → a ≠ b → (TX4 a).2.1 ≠ (TX4 b).2.1 := by decide +kernel
theorem tyX4_ok : ∀ k, k < 5 → parseFieldDescriptor (TX4 k).2.2.1 = some (tyX4 k) := by decide +kernel
abbrev cX4_init : ByteArray := prog_1_method_1_code
def yX4_init : MethodName := ⟨RX4, "<init>", "()V"⟩
abbrev cX4_addRow : ByteArray := prog_1_method_2_code
def yX4_addRow : MethodName := ⟨RX4, "addRow", "(III)I"⟩
abbrev cX4_removeRow : ByteArray := prog_1_method_3_code
def yX4_removeRow : MethodName := ⟨RX4, "removeRow", "(I)I"⟩
abbrev cX4_lift : ByteArray := prog_1_method_4_code
def yX4_lift : MethodName := ⟨RX4, "lift", "(II)I"⟩
abbrev cX4_addColumn : ByteArray := prog_1_method_5_code
def yX4_addColumn : MethodName := ⟨RX4, "addColumn", "(III)I"⟩
abbrev cX4_removeColumn : ByteArray := prog_1_method_6_code
def yX4_removeColumn : MethodName := ⟨RX4, "removeColumn", "(I)I"⟩
abbrev cX4_set : ByteArray := prog_1_method_7_code
def yX4_set : MethodName := ⟨RX4, "set", "(II)I"⟩
abbrev cX4_take : ByteArray := prog_1_method_8_code
def yX4_take : MethodName := ⟨RX4, "take", "(II)I"⟩
abbrev cX4_leave : ByteArray := prog_1_method_9_code
def yX4_leave : MethodName := ⟨RX4, "leave", "(II)I"⟩
abbrev cX4_seatParty : ByteArray := prog_1_method_10_code
def yX4_seatParty : MethodName := ⟨RX4, "seatParty", "(I)I"⟩
abbrev cX4_clear : ByteArray := prog_1_method_11_code
def yX4_clear : MethodName := ⟨RX4, "clear", "()I"⟩
abbrev cX4_row : ByteArray := prog_1_method_18_code
def yX4_row : MethodName := ⟨RX4, "row", "(II)I"⟩
abbrev cX4_seat : ByteArray := prog_1_method_19_code
def yX4_seat : MethodName := ⟨RX4, "seat", "(III)I"⟩
abbrev cX4_column : ByteArray := prog_1_method_20_code
def yX4_column : MethodName := ⟨RX4, "column", "(II)I"⟩
abbrev cX4_count : ByteArray := prog_1_method_23_code
def yX4_count : MethodName := ⟨RX4, "count", "(I)I"⟩
abbrev cX4_saveState : ByteArray := prog_1_method_31_code
def yX4_saveState : MethodName := ⟨RX4, "saveState", "()V"⟩
abbrev cX4_checkRow : ByteArray := prog_1_method_32_code
def yX4_checkRow : MethodName := ⟨RX4, "checkRow", "(I)V"⟩
abbrev cX4_checkSeat : ByteArray := prog_1_method_33_code
def yX4_checkSeat : MethodName := ⟨RX4, "checkSeat", "(II)V"⟩
abbrev cX4_checkColumn : ByteArray := prog_1_method_34_code
def yX4_checkColumn : MethodName := ⟨RX4, "checkColumn", "(I)V"⟩
abbrev cX4_checkSetting : ByteArray := prog_1_method_35_code
def yX4_checkSetting : MethodName := ⟨RX4, "checkSetting", "(I)V"⟩
abbrev cX4_checkHeight : ByteArray := prog_1_method_36_code
def yX4_checkHeight : MethodName := ⟨RX4, "checkHeight", "(I)V"⟩
abbrev cX4_checkWhat : ByteArray := prog_1_method_37_code
def yX4_checkWhat : MethodName := ⟨RX4, "checkWhat", "(II)V"⟩
abbrev cX4_rowProperty : ByteArray := prog_1_method_38_code
def yX4_rowProperty : MethodName := ⟨RX4, "rowProperty", "(II)I"⟩
abbrev cX4_seatProperty : ByteArray := prog_1_method_39_code
def yX4_seatProperty : MethodName := ⟨RX4, "seatProperty", "(III)I"⟩
abbrev cX4_columnProperty : ByteArray := prog_1_method_40_code
def yX4_columnProperty : MethodName := ⟨RX4, "columnProperty", "(II)I"⟩
abbrev cX4_numberOf : ByteArray := prog_1_method_41_code
def yX4_numberOf : MethodName := ⟨RX4, "numberOf", "(I)I"⟩
def RX5 : String := "HallSightsModel"
def TX5 : u_T := fun k => match k with
  | _ => ("", "", "", false)
def tyX5 : Nat → FieldType := fun k => match k with
  | _ => .int
abbrev wsX50 : List Cond := u_ws RX5 TX5 0
theorem nmX5 : ∀ a, a < 0 → ∀ b, b < 0 → a ≠ b → (TX5 a).2.1 ≠ (TX5 b).2.1 := by decide +kernel
theorem tyX5_ok : ∀ k, k < 0 → parseFieldDescriptor (TX5 k).2.2.1 = some (tyX5 k) := by decide +kernel
def RJ6 : String := "java/lang/Integer"
def TJ6 : u_T := fun k => match k with
  | _ => ("", "", "", false)
def tyJ6 : Nat → FieldType := fun k => match k with
  | _ => .int
abbrev wsJ60 : List Cond := u_ws RJ6 TJ6 0
theorem nmJ6 : ∀ a, a < 0 → ∀ b, b < 0 → a ≠ b → (TJ6 a).2.1 ≠ (TJ6 b).2.1 := by decide +kernel
theorem tyJ6_ok : ∀ k, k < 0 → parseFieldDescriptor (TJ6 k).2.2.1 = some (tyJ6 k) := by decide +kernel
abbrev cJ6_bitCount_0f7a4 : ByteArray := prog_12_method_49_code
def yJ6_bitCount_0f7a4 : MethodName := ⟨RJ6, "bitCount", "(I)I"⟩
def RJ9 : String := "java/lang/Math"
def TJ9 : u_T := fun k => match k with
  | _ => ("", "", "", false)
def tyJ9 : Nat → FieldType := fun k => match k with
  | _ => .int
abbrev wsJ90 : List Cond := u_ws RJ9 TJ9 0
theorem nmJ9 : ∀ a, a < 0 → ∀ b, b < 0 → a ≠ b → (TJ9 a).2.1 ≠ (TJ9 b).2.1 := by decide +kernel
theorem tyJ9_ok : ∀ k, k < 0 → parseFieldDescriptor (TJ9 k).2.2.1 = some (tyJ9 k) := by decide +kernel
abbrev cJ9_abs_0f7a4 : ByteArray := prog_13_method_59_code
def yJ9_abs_0f7a4 : MethodName := ⟨RJ9, "abs", "(I)I"⟩
abbrev cJ9_max_7cf53 : ByteArray := prog_13_method_65_code
def yJ9_max_7cf53 : MethodName := ⟨RJ9, "max", "(II)I"⟩
def RJ0 : String := "java/lang/String"
def TJ0 : u_T := fun k => match k with
  | _ => ("", "", "", false)
def tyJ0 : Nat → FieldType := fun k => match k with
  | _ => .int
abbrev wsJ00 : List Cond := u_ws RJ0 TJ0 0
theorem nmJ0 : ∀ a, a < 0 → ∀ b, b < 0 → a ≠ b → (TJ0 a).2.1 ≠ (TJ0 b).2.1 := by decide +kernel
theorem tyJ0_ok : ∀ k, k < 0 → parseFieldDescriptor (TJ0 k).2.2.1 = some (tyJ0 k) := by decide +kernel
def RJ10 : String := "java/lang/System"
def TJ10 : u_T := fun k => match k with
  | _ => ("", "", "", false)
def tyJ10 : Nat → FieldType := fun k => match k with
  | _ => .int
abbrev wsJ100 : List Cond := u_ws RJ10 TJ10 0
theorem nmJ10 : ∀ a, a < 0 → ∀ b, b < 0 → a ≠ b → (TJ10 a).2.1 ≠ (TJ10 b).2.1 := by decide +kernel
theorem tyJ10_ok : ∀ k, k < 0 → parseFieldDescriptor (TJ10 k).2.2.1 = some (tyJ10 k) := by decide +kernel
def RL : String := "HallSightsLaw"
abbrev cL_cell : ByteArray := method_2_code
def yL_cell : MethodName := ⟨RL, "cell", "([II)I"⟩
abbrev cL_at : ByteArray := method_3_code
def yL_at : MethodName := ⟨RL, "at", "(II)I"⟩
abbrev cL_side : ByteArray := method_4_code
def yL_side : MethodName := ⟨RL, "side", "([III)I"⟩
abbrev cL_inWay : ByteArray := method_5_code
def yL_inWay : MethodName := ⟨RL, "inWay", "([I[IIIII)Z"⟩
abbrev cL_people : ByteArray := method_6_code
def yL_people : MethodName := ⟨RL, "people", "([I[III)I"⟩
abbrev cL_columns : ByteArray := method_7_code
def yL_columns : MethodName := ⟨RL, "columns", "([I[I[III)I"⟩
abbrev cL_all : ByteArray := method_8_code
def yL_all : MethodName := ⟨RL, "all", "([I[II)I"⟩
abbrev cL_builds : ByteArray := method_9_code
def yL_builds : MethodName := ⟨RL, "builds", "(LHallSights;II[I[I[I)Z"⟩
abbrev cL_sits : ByteArray := method_10_code
def yL_sits : MethodName := ⟨RL, "sits", "(LHallSights;II[I[I[I)Z"⟩
abbrev cL_agree : ByteArray := method_11_code
def yL_agree : MethodName := ⟨RL, "agree", "(LHallSights;[I[I[I)Z"⟩
abbrev cL_law : ByteArray := code
def yL_law : MethodName := ⟨RL, "law", "([I)Z"⟩
def wsX0_init : List Cond := .code yX0_init cX0_init 1 none :: ([.methodLink RX0 3 objectInit, .instanceMethod objectInit, .code objectInit ⟨#[0xb1]⟩ 1 none, .arrayClass .int, .fieldLink RX0 9 "HallSights$Hall" "distances" "[I", .fieldLink RX0 15 "HallSights$Hall" "heights" "[I", .fieldLink RX0 18 "HallSights$Hall" "seats" "[I", .fieldLink RX0 21 "HallSights$Hall" "taken" "[I", .fieldLink RX0 24 "HallSights$Hall" "columnDistances" "[I", .fieldLink RX0 27 "HallSights$Hall" "columnSides" "[I", .fieldLink RX0 30 "HallSights$Hall" "columnHalves" "[I", .fieldLink RX0 33 "HallSights$Hall" "settings" "[I"] ++ wsX00)
def wsX0_copyFrom : List Cond := .code yX0_copyFrom cX0_copyFrom 2 none :: ([.fieldLink RX0 36 "HallSights$Hall" "rows" "I", .fieldLink RX0 9 "HallSights$Hall" "distances" "[I", .methodLink RX0 40 arraycopyName, .native arraycopyName, .static arraycopyName, .initialized "java/lang/System", .fieldLink RX0 15 "HallSights$Hall" "heights" "[I", .fieldLink RX0 18 "HallSights$Hall" "seats" "[I", .fieldLink RX0 21 "HallSights$Hall" "taken" "[I", .fieldLink RX0 46 "HallSights$Hall" "columns" "I", .fieldLink RX0 24 "HallSights$Hall" "columnDistances" "[I", .fieldLink RX0 27 "HallSights$Hall" "columnSides" "[I", .fieldLink RX0 30 "HallSights$Hall" "columnHalves" "[I", .fieldLink RX0 33 "HallSights$Hall" "settings" "[I"] ++ wsX00)
def wsX0_hasRoomForRow : List Cond := .code yX0_hasRoomForRow cX0_hasRoomForRow 3 (some .boolean) :: ([.fieldLink RX0 36 "HallSights$Hall" "rows" "I", .fieldLink RX0 9 "HallSights$Hall" "distances" "[I"] ++ wsX00)
def wsX0_moveRow : List Cond := .code yX0_moveRow cX0_moveRow 3 none :: ([.fieldLink RX0 9 "HallSights$Hall" "distances" "[I", .fieldLink RX0 15 "HallSights$Hall" "heights" "[I", .fieldLink RX0 18 "HallSights$Hall" "seats" "[I", .fieldLink RX0 21 "HallSights$Hall" "taken" "[I"] ++ wsX00)
def wsX0_insertRow : List Cond := .code yX0_insertRow cX0_insertRow 5 (some .int) :: ([.fieldLink RX0 36 "HallSights$Hall" "rows" "I", .fieldLink RX0 9 "HallSights$Hall" "distances" "[I", .fieldLink RX0 15 "HallSights$Hall" "heights" "[I", .fieldLink RX0 18 "HallSights$Hall" "seats" "[I", .fieldLink RX0 21 "HallSights$Hall" "taken" "[I", .methodLink RX0 49 yX0_moveRow, .instanceMethod yX0_moveRow, .selects RX0 yX0_moveRow yX0_moveRow, .initialized RX0, .code yX0_moveRow cX0_moveRow 3 none] ++ wsX00)
def wsX0_deleteRow : List Cond := .code yX0_deleteRow cX0_deleteRow 3 none :: ([.fieldLink RX0 36 "HallSights$Hall" "rows" "I", .methodLink RX0 49 yX0_moveRow, .instanceMethod yX0_moveRow, .selects RX0 yX0_moveRow yX0_moveRow, .initialized RX0, .code yX0_moveRow cX0_moveRow 3 none, .fieldLink RX0 9 "HallSights$Hall" "distances" "[I", .fieldLink RX0 15 "HallSights$Hall" "heights" "[I", .fieldLink RX0 18 "HallSights$Hall" "seats" "[I", .fieldLink RX0 21 "HallSights$Hall" "taken" "[I"] ++ wsX00)
def wsX0_insertColumn : List Cond := .code yX0_insertColumn cX0_insertColumn 4 (some .int) :: ([.fieldLink RX0 24 "HallSights$Hall" "columnDistances" "[I", .fieldLink RX0 46 "HallSights$Hall" "columns" "I", .fieldLink RX0 27 "HallSights$Hall" "columnSides" "[I", .fieldLink RX0 30 "HallSights$Hall" "columnHalves" "[I"] ++ wsX00)
def wsX0_deleteColumn : List Cond := .code yX0_deleteColumn cX0_deleteColumn 3 none :: ([.fieldLink RX0 46 "HallSights$Hall" "columns" "I", .fieldLink RX0 24 "HallSights$Hall" "columnDistances" "[I", .fieldLink RX0 27 "HallSights$Hall" "columnSides" "[I", .fieldLink RX0 30 "HallSights$Hall" "columnHalves" "[I"] ++ wsX00)
def wsX0_isTaken : List Cond := .code yX0_isTaken cX0_isTaken 3 (some .boolean) :: ([.fieldLink RX0 21 "HallSights$Hall" "taken" "[I"] ++ wsX00)
def wsX0_bitsOf : List Cond := .code yX0_bitsOf cX0_bitsOf 2 (some .int) :: ([])
def wsX0_areFree : List Cond := .code yX0_areFree cX0_areFree 4 (some .boolean) :: ([.fieldLink RX0 21 "HallSights$Hall" "taken" "[I", .methodLink RX0 53 yX0_bitsOf, .static yX0_bitsOf, .initialized RX0, .code yX0_bitsOf cX0_bitsOf 2 (some .int)] ++ wsX00)
def wsX0_occupy : List Cond := .code yX0_occupy cX0_occupy 4 none :: ([.fieldLink RX0 21 "HallSights$Hall" "taken" "[I", .methodLink RX0 53 yX0_bitsOf, .static yX0_bitsOf, .initialized RX0, .code yX0_bitsOf cX0_bitsOf 2 (some .int)] ++ wsX00)
def wsX0_vacate : List Cond := .code yX0_vacate cX0_vacate 3 none :: ([.fieldLink RX0 21 "HallSights$Hall" "taken" "[I", .methodLink RX0 53 yX0_bitsOf, .static yX0_bitsOf, .initialized RX0, .code yX0_bitsOf cX0_bitsOf 2 (some .int)] ++ wsX00)
def wsX0_vacateAll : List Cond := .code yX0_vacateAll cX0_vacateAll 2 none :: ([.fieldLink RX0 36 "HallSights$Hall" "rows" "I", .fieldLink RX0 21 "HallSights$Hall" "taken" "[I"] ++ wsX00)
def wsJ6_bitCount_0f7a4 : List Cond := .code yJ6_bitCount_0f7a4 cJ6_bitCount_0f7a4 1 (some .int) :: ([.constant RJ6 265 (1431655765), .constant RJ6 266 (858993459), .constant RJ6 267 (252645135)])
def wsX0_takenInRow : List Cond := .code yX0_takenInRow cX0_takenInRow 2 (some .int) :: ([.fieldLink RX0 21 "HallSights$Hall" "taken" "[I", .methodLink RX0 57 yJ6_bitCount_0f7a4, .static yJ6_bitCount_0f7a4, .initialized RJ6, .code yJ6_bitCount_0f7a4 cJ6_bitCount_0f7a4 1 (some .int), .constant RJ6 265 (1431655765), .constant RJ6 266 (858993459), .constant RJ6 267 (252645135)] ++ wsX00)
def wsX0_takenInAll : List Cond := .code yX0_takenInAll cX0_takenInAll 3 (some .int) :: ([.fieldLink RX0 36 "HallSights$Hall" "rows" "I", .methodLink RX0 63 yX0_takenInRow, .instanceMethod yX0_takenInRow, .selects RX0 yX0_takenInRow yX0_takenInRow, .initialized RX0, .code yX0_takenInRow cX0_takenInRow 2 (some .int), .fieldLink RX0 21 "HallSights$Hall" "taken" "[I", .methodLink RX0 57 yJ6_bitCount_0f7a4, .static yJ6_bitCount_0f7a4, .initialized RJ6, .code yJ6_bitCount_0f7a4 cJ6_bitCount_0f7a4 1 (some .int), .constant RJ6 265 (1431655765), .constant RJ6 266 (858993459), .constant RJ6 267 (252645135)] ++ wsX00)
def wsX0_seatsInAll : List Cond := .code yX0_seatsInAll cX0_seatsInAll 3 (some .int) :: ([.fieldLink RX0 36 "HallSights$Hall" "rows" "I", .fieldLink RX0 18 "HallSights$Hall" "seats" "[I"] ++ wsX00)
def wsX0_longestFree : List Cond := .code yX0_longestFree cX0_longestFree 5 (some .int) :: ([.fieldLink RX0 36 "HallSights$Hall" "rows" "I", .fieldLink RX0 18 "HallSights$Hall" "seats" "[I", .methodLink RX0 70 Lib.Math.max.name, .static Lib.Math.max.name, .initialized "java/lang/Math", .code Lib.Math.max.name Lib.Math.max.code 2 (some .int), .methodLink RX0 66 yX0_isTaken, .instanceMethod yX0_isTaken, .selects RX0 yX0_isTaken yX0_isTaken, .initialized RX0, .code yX0_isTaken cX0_isTaken 3 (some .boolean), .fieldLink RX0 21 "HallSights$Hall" "taken" "[I"] ++ wsX00)
def wsX0_sideOf : List Cond := .code yX0_sideOf cX0_sideOf 3 (some .int) :: ([.fieldLink RX0 18 "HallSights$Hall" "seats" "[I"] ++ wsX00)
def wsX0_headOverPoint : List Cond := .code yX0_headOverPoint cX0_headOverPoint 2 (some .int) :: ([.fieldLink RX0 15 "HallSights$Hall" "heights" "[I", .fieldLink RX0 33 "HallSights$Hall" "settings" "[I"] ++ wsX00)
def wsX0_eyeOverPoint : List Cond := .code yX0_eyeOverPoint cX0_eyeOverPoint 2 (some .int) :: ([.fieldLink RX0 15 "HallSights$Hall" "heights" "[I", .fieldLink RX0 33 "HallSights$Hall" "settings" "[I"] ++ wsX00)
def wsX0_isHeadInWay : List Cond := .code yX0_isHeadInWay cX0_isHeadInWay 8 (some .boolean) :: ([.fieldLink RX0 9 "HallSights$Hall" "distances" "[I", .methodLink RX0 78 Lib.Math.abs.name, .static Lib.Math.abs.name, .initialized "java/lang/Math", .code Lib.Math.abs.name Lib.Math.abs.code 1 (some .int), .methodLink RX0 75 yX0_sideOf, .instanceMethod yX0_sideOf, .selects RX0 yX0_sideOf yX0_sideOf, .initialized RX0, .code yX0_sideOf cX0_sideOf 3 (some .int), .fieldLink RX0 18 "HallSights$Hall" "seats" "[I", .methodLink RX0 81 yX0_headOverPoint, .instanceMethod yX0_headOverPoint, .selects RX0 yX0_headOverPoint yX0_headOverPoint, .code yX0_headOverPoint cX0_headOverPoint 2 (some .int), .fieldLink RX0 15 "HallSights$Hall" "heights" "[I", .fieldLink RX0 33 "HallSights$Hall" "settings" "[I", .methodLink RX0 84 yX0_eyeOverPoint, .instanceMethod yX0_eyeOverPoint, .selects RX0 yX0_eyeOverPoint yX0_eyeOverPoint, .code yX0_eyeOverPoint cX0_eyeOverPoint 2 (some .int)] ++ wsX00)
def wsX0_isColumnInWay : List Cond := .code yX0_isColumnInWay cX0_isColumnInWay 7 (some .boolean) :: ([.fieldLink RX0 9 "HallSights$Hall" "distances" "[I", .fieldLink RX0 24 "HallSights$Hall" "columnDistances" "[I", .fieldLink RX0 27 "HallSights$Hall" "columnSides" "[I", .methodLink RX0 78 Lib.Math.abs.name, .static Lib.Math.abs.name, .initialized "java/lang/Math", .code Lib.Math.abs.name Lib.Math.abs.code 1 (some .int), .fieldLink RX0 30 "HallSights$Hall" "columnHalves" "[I", .methodLink RX0 75 yX0_sideOf, .instanceMethod yX0_sideOf, .selects RX0 yX0_sideOf yX0_sideOf, .initialized RX0, .code yX0_sideOf cX0_sideOf 3 (some .int), .fieldLink RX0 18 "HallSights$Hall" "seats" "[I"] ++ wsX00)
def wsX0_peopleInWay_r1 : List Cond := [Cond.fieldLink RX0 18 "HallSights$Hall" "seats" "[I", Cond.methodLink RX0 66 yX0_isTaken, Cond.instanceMethod yX0_isTaken, Cond.selects RX0 yX0_isTaken yX0_isTaken, Cond.initialized RX0, Cond.code yX0_isTaken cX0_isTaken 3 (some .boolean), Cond.fieldLink RX0 21 "HallSights$Hall" "taken" "[I", Cond.methodLink RX0 87 yX0_isHeadInWay, Cond.instanceMethod yX0_isHeadInWay, Cond.selects RX0 yX0_isHeadInWay yX0_isHeadInWay, Cond.code yX0_isHeadInWay cX0_isHeadInWay 8 (some .boolean), Cond.fieldLink RX0 9 "HallSights$Hall" "distances" "[I", Cond.methodLink RX0 78 Lib.Math.abs.name, Cond.static Lib.Math.abs.name, Cond.initialized "java/lang/Math", Cond.code Lib.Math.abs.name Lib.Math.abs.code 1 (some .int), Cond.methodLink RX0 75 yX0_sideOf, Cond.instanceMethod yX0_sideOf, Cond.selects RX0 yX0_sideOf yX0_sideOf, Cond.code yX0_sideOf cX0_sideOf 3 (some .int), Cond.methodLink RX0 81 yX0_headOverPoint, Cond.instanceMethod yX0_headOverPoint, Cond.selects RX0 yX0_headOverPoint yX0_headOverPoint, Cond.code yX0_headOverPoint cX0_headOverPoint 2 (some .int)]
def wsX0_peopleInWay_r2 : List Cond := [Cond.fieldLink RX0 15 "HallSights$Hall" "heights" "[I", Cond.fieldLink RX0 33 "HallSights$Hall" "settings" "[I", Cond.methodLink RX0 84 yX0_eyeOverPoint, Cond.instanceMethod yX0_eyeOverPoint, Cond.selects RX0 yX0_eyeOverPoint yX0_eyeOverPoint, Cond.code yX0_eyeOverPoint cX0_eyeOverPoint 2 (some .int)]
def wsX0_peopleInWay : List Cond := .code yX0_peopleInWay cX0_peopleInWay 6 (some .int) :: ((wsX0_peopleInWay_r1 ++ wsX0_peopleInWay_r2) ++ wsX00)
def wsX0_columnsInWay : List Cond := .code yX0_columnsInWay cX0_columnsInWay 5 (some .int) :: ([.fieldLink RX0 46 "HallSights$Hall" "columns" "I", .methodLink RX0 91 yX0_isColumnInWay, .instanceMethod yX0_isColumnInWay, .selects RX0 yX0_isColumnInWay yX0_isColumnInWay, .initialized RX0, .code yX0_isColumnInWay cX0_isColumnInWay 7 (some .boolean), .fieldLink RX0 9 "HallSights$Hall" "distances" "[I", .fieldLink RX0 24 "HallSights$Hall" "columnDistances" "[I", .fieldLink RX0 27 "HallSights$Hall" "columnSides" "[I", .methodLink RX0 78 Lib.Math.abs.name, .static Lib.Math.abs.name, .initialized "java/lang/Math", .code Lib.Math.abs.name Lib.Math.abs.code 1 (some .int), .fieldLink RX0 30 "HallSights$Hall" "columnHalves" "[I", .methodLink RX0 75 yX0_sideOf, .instanceMethod yX0_sideOf, .selects RX0 yX0_sideOf yX0_sideOf, .code yX0_sideOf cX0_sideOf 3 (some .int), .fieldLink RX0 18 "HallSights$Hall" "seats" "[I"] ++ wsX00)
def wsX0_takenBehind_r1 : List Cond := [Cond.fieldLink RX0 36 "HallSights$Hall" "rows" "I", Cond.fieldLink RX0 18 "HallSights$Hall" "seats" "[I", Cond.methodLink RX0 66 yX0_isTaken, Cond.instanceMethod yX0_isTaken, Cond.selects RX0 yX0_isTaken yX0_isTaken, Cond.initialized RX0, Cond.code yX0_isTaken cX0_isTaken 3 (some .boolean), Cond.fieldLink RX0 21 "HallSights$Hall" "taken" "[I", Cond.methodLink RX0 87 yX0_isHeadInWay, Cond.instanceMethod yX0_isHeadInWay, Cond.selects RX0 yX0_isHeadInWay yX0_isHeadInWay, Cond.code yX0_isHeadInWay cX0_isHeadInWay 8 (some .boolean), Cond.fieldLink RX0 9 "HallSights$Hall" "distances" "[I", Cond.methodLink RX0 78 Lib.Math.abs.name, Cond.static Lib.Math.abs.name, Cond.initialized "java/lang/Math", Cond.code Lib.Math.abs.name Lib.Math.abs.code 1 (some .int), Cond.methodLink RX0 75 yX0_sideOf, Cond.instanceMethod yX0_sideOf, Cond.selects RX0 yX0_sideOf yX0_sideOf, Cond.code yX0_sideOf cX0_sideOf 3 (some .int), Cond.methodLink RX0 81 yX0_headOverPoint, Cond.instanceMethod yX0_headOverPoint, Cond.selects RX0 yX0_headOverPoint yX0_headOverPoint]
def wsX0_takenBehind_r2 : List Cond := [Cond.code yX0_headOverPoint cX0_headOverPoint 2 (some .int), Cond.fieldLink RX0 15 "HallSights$Hall" "heights" "[I", Cond.fieldLink RX0 33 "HallSights$Hall" "settings" "[I", Cond.methodLink RX0 84 yX0_eyeOverPoint, Cond.instanceMethod yX0_eyeOverPoint, Cond.selects RX0 yX0_eyeOverPoint yX0_eyeOverPoint, Cond.code yX0_eyeOverPoint cX0_eyeOverPoint 2 (some .int)]
def wsX0_takenBehind : List Cond := .code yX0_takenBehind cX0_takenBehind 6 (some .int) :: ((wsX0_takenBehind_r1 ++ wsX0_takenBehind_r2) ++ wsX00)
def wsX0_seatsBehindColumn : List Cond := .code yX0_seatsBehindColumn cX0_seatsBehindColumn 5 (some .int) :: ([.fieldLink RX0 36 "HallSights$Hall" "rows" "I", .fieldLink RX0 18 "HallSights$Hall" "seats" "[I", .methodLink RX0 91 yX0_isColumnInWay, .instanceMethod yX0_isColumnInWay, .selects RX0 yX0_isColumnInWay yX0_isColumnInWay, .initialized RX0, .code yX0_isColumnInWay cX0_isColumnInWay 7 (some .boolean), .fieldLink RX0 9 "HallSights$Hall" "distances" "[I", .fieldLink RX0 24 "HallSights$Hall" "columnDistances" "[I", .fieldLink RX0 27 "HallSights$Hall" "columnSides" "[I", .methodLink RX0 78 Lib.Math.abs.name, .static Lib.Math.abs.name, .initialized "java/lang/Math", .code Lib.Math.abs.name Lib.Math.abs.code 1 (some .int), .fieldLink RX0 30 "HallSights$Hall" "columnHalves" "[I", .methodLink RX0 75 yX0_sideOf, .instanceMethod yX0_sideOf, .selects RX0 yX0_sideOf yX0_sideOf, .code yX0_sideOf cX0_sideOf 3 (some .int)] ++ wsX00)
def wsX1_init : List Cond := .code yX1_init cX1_init 2 none :: ([.methodLink RX1 3 objectInit, .instanceMethod objectInit, .code objectInit ⟨#[0xb1]⟩ 1 none, .classLink RX1 9 RX0, .fieldLink RX1 11 "HallSights$History" "kept" "[LHallSights$Hall;", .instantiable RX0 10, .initialized RX0, .instanceMethod yX0_init, .code yX0_init cX0_init 1 none, .methodLink RX0 3 objectInit, .arrayClass .int, .fieldLink RX0 9 "HallSights$Hall" "distances" "[I", .fieldLink RX0 15 "HallSights$Hall" "heights" "[I", .fieldLink RX0 18 "HallSights$Hall" "seats" "[I", .fieldLink RX0 21 "HallSights$Hall" "taken" "[I", .fieldLink RX0 24 "HallSights$Hall" "columnDistances" "[I", .fieldLink RX0 27 "HallSights$Hall" "columnSides" "[I", .fieldLink RX0 30 "HallSights$Hall" "columnHalves" "[I", .fieldLink RX0 33 "HallSights$Hall" "settings" "[I"] ++ wsX10 ++ wsX00)
def wsX1_dropOldest : List Cond := .code yX1_dropOldest cX1_dropOldest 3 none :: ([.fieldLink RX1 11 "HallSights$History" "kept" "[LHallSights$Hall;", .fieldLink RX1 18 "HallSights$History" "size" "I"] ++ wsX10)
def wsX1_keep_r1 : List Cond := [Cond.fieldLink RX1 18 "HallSights$History" "size" "I", Cond.fieldLink RX1 11 "HallSights$History" "kept" "[LHallSights$Hall;", Cond.methodLink RX1 22 yX1_dropOldest, Cond.instanceMethod yX1_dropOldest, Cond.selects RX1 yX1_dropOldest yX1_dropOldest, Cond.initialized RX1, Cond.code yX1_dropOldest cX1_dropOldest 3 none, Cond.methodLink RX1 25 yX0_copyFrom, Cond.instanceMethod yX0_copyFrom, Cond.selects RX0 yX0_copyFrom yX0_copyFrom, Cond.initialized RX0, Cond.code yX0_copyFrom cX0_copyFrom 2 none, Cond.fieldLink RX0 36 "HallSights$Hall" "rows" "I", Cond.fieldLink RX0 9 "HallSights$Hall" "distances" "[I", Cond.methodLink RX0 40 arraycopyName, Cond.native arraycopyName, Cond.static arraycopyName, Cond.initialized "java/lang/System", Cond.fieldLink RX0 15 "HallSights$Hall" "heights" "[I", Cond.fieldLink RX0 18 "HallSights$Hall" "seats" "[I", Cond.fieldLink RX0 21 "HallSights$Hall" "taken" "[I", Cond.fieldLink RX0 46 "HallSights$Hall" "columns" "I", Cond.fieldLink RX0 24 "HallSights$Hall" "columnDistances" "[I", Cond.fieldLink RX0 27 "HallSights$Hall" "columnSides" "[I"]
def wsX1_keep_r2 : List Cond := [Cond.fieldLink RX0 30 "HallSights$Hall" "columnHalves" "[I", Cond.fieldLink RX0 33 "HallSights$Hall" "settings" "[I"]
def wsX1_keep : List Cond := .code yX1_keep cX1_keep 2 none :: ((wsX1_keep_r1 ++ wsX1_keep_r2) ++ wsX10 ++ wsX00)
def wsX2_init : List Cond := .code yX2_init cX2_init 1 none :: ([.methodLink RX2 3 objectInit, .instanceMethod objectInit, .code objectInit ⟨#[0xb1]⟩ 1 none, .arrayClass .char, .fieldLink RX2 9 "HallSights$RowsText" "signs" "[C", .arrayClass .int, .fieldLink RX2 15 "HallSights$RowsText" "numbers" "[I"] ++ wsX20)
def wsX3_init : List Cond := .code yX3_init cX3_init 1 none :: ([.methodLink RX3 3 objectInit, .instanceMethod objectInit, .code objectInit ⟨#[0xb1]⟩ 1 none, .classLink RX3 9 RX0, .instantiable RX0 10, .initialized RX0, .fieldLink RX3 12 "HallSights$Survey" "hall" "LHallSights$Hall;", .arrayClass .int, .fieldLink RX3 18 "HallSights$Survey" "people" "[I", .fieldLink RX3 22 "HallSights$Survey" "columns" "[I", .fieldLink RX3 25 "HallSights$Survey" "ranks" "[I", .instanceMethod yX0_init, .code yX0_init cX0_init 1 none, .methodLink RX0 3 objectInit, .fieldLink RX0 9 "HallSights$Hall" "distances" "[I", .fieldLink RX0 15 "HallSights$Hall" "heights" "[I", .fieldLink RX0 18 "HallSights$Hall" "seats" "[I", .fieldLink RX0 21 "HallSights$Hall" "taken" "[I", .fieldLink RX0 24 "HallSights$Hall" "columnDistances" "[I", .fieldLink RX0 27 "HallSights$Hall" "columnSides" "[I", .fieldLink RX0 30 "HallSights$Hall" "columnHalves" "[I", .fieldLink RX0 33 "HallSights$Hall" "settings" "[I"] ++ wsX00 ++ wsX30)
def wsX3_forget : List Cond := .code yX3_forget cX3_forget 1 none :: ([.fieldLink RX3 28 "HallSights$Survey" "looked" "Z"] ++ wsX30)
def wsX3_cellOf : List Cond := .code yX3_cellOf cX3_cellOf 2 (some .int) :: ([])
def wsX3_allInWay : List Cond := .code yX3_allInWay cX3_allInWay 4 (some .int) :: ([.fieldLink RX3 18 "HallSights$Survey" "people" "[I", .fieldLink RX3 22 "HallSights$Survey" "columns" "[I", .methodLink RX3 39 yX3_cellOf, .static yX3_cellOf, .initialized RX3, .code yX3_cellOf cX3_cellOf 2 (some .int)] ++ wsX30)
def wsX3_rankOf : List Cond := .code yX3_rankOf cX3_rankOf 4 (some .int) :: ([.fieldLink RX3 12 "HallSights$Survey" "hall" "LHallSights$Hall;", .methodLink RX3 58 Lib.Math.abs.name, .static Lib.Math.abs.name, .initialized "java/lang/Math", .code Lib.Math.abs.name Lib.Math.abs.code 1 (some .int), .methodLink RX3 52 yX3_allInWay, .instanceMethod yX3_allInWay, .selects RX3 yX3_allInWay yX3_allInWay, .initialized RX3, .code yX3_allInWay cX3_allInWay 4 (some .int), .fieldLink RX3 18 "HallSights$Survey" "people" "[I", .fieldLink RX3 22 "HallSights$Survey" "columns" "[I", .methodLink RX3 39 yX3_cellOf, .static yX3_cellOf, .code yX3_cellOf cX3_cellOf 2 (some .int), .methodLink RX3 55 yX0_sideOf, .instanceMethod yX0_sideOf, .selects RX0 yX0_sideOf yX0_sideOf, .initialized RX0, .code yX0_sideOf cX0_sideOf 3 (some .int), .fieldLink RX0 18 "HallSights$Hall" "seats" "[I"] ++ wsX30 ++ wsX00)
def wsX3_look_r1 : List Cond := [Cond.fieldLink RX3 28 "HallSights$Survey" "looked" "Z", Cond.fieldLink RX3 12 "HallSights$Survey" "hall" "LHallSights$Hall;", Cond.fieldLink RX3 32 "HallSights$Hall" "rows" "I", Cond.fieldLink RX3 36 "HallSights$Hall" "seats" "[I", Cond.fieldLink RX3 18 "HallSights$Survey" "people" "[I", Cond.fieldLink RX3 22 "HallSights$Survey" "columns" "[I", Cond.fieldLink RX3 25 "HallSights$Survey" "ranks" "[I", Cond.methodLink RX3 39 yX3_cellOf, Cond.static yX3_cellOf, Cond.initialized RX3, Cond.code yX3_cellOf cX3_cellOf 2 (some .int), Cond.methodLink RX3 43 yX0_peopleInWay, Cond.instanceMethod yX0_peopleInWay, Cond.selects RX0 yX0_peopleInWay yX0_peopleInWay, Cond.initialized RX0, Cond.code yX0_peopleInWay cX0_peopleInWay 6 (some .int), Cond.fieldLink RX0 18 "HallSights$Hall" "seats" "[I", Cond.methodLink RX0 66 yX0_isTaken, Cond.instanceMethod yX0_isTaken, Cond.selects RX0 yX0_isTaken yX0_isTaken, Cond.code yX0_isTaken cX0_isTaken 3 (some .boolean), Cond.fieldLink RX0 21 "HallSights$Hall" "taken" "[I", Cond.methodLink RX0 87 yX0_isHeadInWay, Cond.instanceMethod yX0_isHeadInWay]
def wsX3_look_r2 : List Cond := [Cond.selects RX0 yX0_isHeadInWay yX0_isHeadInWay, Cond.code yX0_isHeadInWay cX0_isHeadInWay 8 (some .boolean), Cond.fieldLink RX0 9 "HallSights$Hall" "distances" "[I", Cond.methodLink RX0 78 Lib.Math.abs.name, Cond.static Lib.Math.abs.name, Cond.initialized "java/lang/Math", Cond.code Lib.Math.abs.name Lib.Math.abs.code 1 (some .int), Cond.methodLink RX0 75 yX0_sideOf, Cond.instanceMethod yX0_sideOf, Cond.selects RX0 yX0_sideOf yX0_sideOf, Cond.code yX0_sideOf cX0_sideOf 3 (some .int), Cond.methodLink RX0 81 yX0_headOverPoint, Cond.instanceMethod yX0_headOverPoint, Cond.selects RX0 yX0_headOverPoint yX0_headOverPoint, Cond.code yX0_headOverPoint cX0_headOverPoint 2 (some .int), Cond.fieldLink RX0 15 "HallSights$Hall" "heights" "[I", Cond.fieldLink RX0 33 "HallSights$Hall" "settings" "[I", Cond.methodLink RX0 84 yX0_eyeOverPoint, Cond.instanceMethod yX0_eyeOverPoint, Cond.selects RX0 yX0_eyeOverPoint yX0_eyeOverPoint, Cond.code yX0_eyeOverPoint cX0_eyeOverPoint 2 (some .int), Cond.methodLink RX3 46 yX0_columnsInWay, Cond.instanceMethod yX0_columnsInWay, Cond.selects RX0 yX0_columnsInWay yX0_columnsInWay]
def wsX3_look_r3 : List Cond := [Cond.code yX0_columnsInWay cX0_columnsInWay 5 (some .int), Cond.fieldLink RX0 46 "HallSights$Hall" "columns" "I", Cond.methodLink RX0 91 yX0_isColumnInWay, Cond.instanceMethod yX0_isColumnInWay, Cond.selects RX0 yX0_isColumnInWay yX0_isColumnInWay, Cond.code yX0_isColumnInWay cX0_isColumnInWay 7 (some .boolean), Cond.fieldLink RX0 24 "HallSights$Hall" "columnDistances" "[I", Cond.fieldLink RX0 27 "HallSights$Hall" "columnSides" "[I", Cond.fieldLink RX0 30 "HallSights$Hall" "columnHalves" "[I", Cond.methodLink RX3 49 yX3_rankOf, Cond.instanceMethod yX3_rankOf, Cond.selects RX3 yX3_rankOf yX3_rankOf, Cond.code yX3_rankOf cX3_rankOf 4 (some .int), Cond.methodLink RX3 58 Lib.Math.abs.name, Cond.methodLink RX3 52 yX3_allInWay, Cond.instanceMethod yX3_allInWay, Cond.selects RX3 yX3_allInWay yX3_allInWay, Cond.code yX3_allInWay cX3_allInWay 4 (some .int), Cond.methodLink RX3 55 yX0_sideOf]
def wsX3_look : List Cond := .code yX3_look cX3_look 4 none :: ((wsX3_look_r1 ++ (wsX3_look_r2 ++ wsX3_look_r3)) ++ wsX30 ++ wsX00)
def wsX3_sees : List Cond := .code yX3_sees cX3_sees 3 (some .boolean) :: ([.methodLink RX3 52 yX3_allInWay, .instanceMethod yX3_allInWay, .selects RX3 yX3_allInWay yX3_allInWay, .initialized RX3, .code yX3_allInWay cX3_allInWay 4 (some .int), .fieldLink RX3 18 "HallSights$Survey" "people" "[I", .fieldLink RX3 22 "HallSights$Survey" "columns" "[I", .methodLink RX3 39 yX3_cellOf, .static yX3_cellOf, .code yX3_cellOf cX3_cellOf 2 (some .int)] ++ wsX30)
def wsX3_seeingInRow : List Cond := .code yX3_seeingInRow cX3_seeingInRow 4 (some .int) :: ([.fieldLink RX3 12 "HallSights$Survey" "hall" "LHallSights$Hall;", .fieldLink RX3 36 "HallSights$Hall" "seats" "[I", .methodLink RX3 64 yX3_sees, .instanceMethod yX3_sees, .selects RX3 yX3_sees yX3_sees, .initialized RX3, .code yX3_sees cX3_sees 3 (some .boolean), .methodLink RX3 52 yX3_allInWay, .instanceMethod yX3_allInWay, .selects RX3 yX3_allInWay yX3_allInWay, .code yX3_allInWay cX3_allInWay 4 (some .int), .fieldLink RX3 18 "HallSights$Survey" "people" "[I", .fieldLink RX3 22 "HallSights$Survey" "columns" "[I", .methodLink RX3 39 yX3_cellOf, .static yX3_cellOf, .code yX3_cellOf cX3_cellOf 2 (some .int)] ++ wsX30 ++ wsX00)
def wsX3_seeing : List Cond := .code yX3_seeing cX3_seeing 3 (some .int) :: ([.fieldLink RX3 12 "HallSights$Survey" "hall" "LHallSights$Hall;", .fieldLink RX3 32 "HallSights$Hall" "rows" "I", .methodLink RX3 68 yX3_seeingInRow, .instanceMethod yX3_seeingInRow, .selects RX3 yX3_seeingInRow yX3_seeingInRow, .initialized RX3, .code yX3_seeingInRow cX3_seeingInRow 4 (some .int), .fieldLink RX3 36 "HallSights$Hall" "seats" "[I", .methodLink RX3 64 yX3_sees, .instanceMethod yX3_sees, .selects RX3 yX3_sees yX3_sees, .code yX3_sees cX3_sees 3 (some .boolean), .methodLink RX3 52 yX3_allInWay, .instanceMethod yX3_allInWay, .selects RX3 yX3_allInWay yX3_allInWay, .code yX3_allInWay cX3_allInWay 4 (some .int), .fieldLink RX3 18 "HallSights$Survey" "people" "[I", .fieldLink RX3 22 "HallSights$Survey" "columns" "[I", .methodLink RX3 39 yX3_cellOf, .static yX3_cellOf, .code yX3_cellOf cX3_cellOf 2 (some .int)] ++ wsX30 ++ wsX00)
def wsX3_takenSeeing : List Cond := .code yX3_takenSeeing cX3_takenSeeing 4 (some .int) :: ([.fieldLink RX3 12 "HallSights$Survey" "hall" "LHallSights$Hall;", .fieldLink RX3 32 "HallSights$Hall" "rows" "I", .fieldLink RX3 36 "HallSights$Hall" "seats" "[I", .methodLink RX3 71 yX0_isTaken, .instanceMethod yX0_isTaken, .selects RX0 yX0_isTaken yX0_isTaken, .initialized RX0, .code yX0_isTaken cX0_isTaken 3 (some .boolean), .fieldLink RX0 21 "HallSights$Hall" "taken" "[I", .methodLink RX3 64 yX3_sees, .instanceMethod yX3_sees, .selects RX3 yX3_sees yX3_sees, .initialized RX3, .code yX3_sees cX3_sees 3 (some .boolean), .methodLink RX3 52 yX3_allInWay, .instanceMethod yX3_allInWay, .selects RX3 yX3_allInWay yX3_allInWay, .code yX3_allInWay cX3_allInWay 4 (some .int), .fieldLink RX3 18 "HallSights$Survey" "people" "[I", .fieldLink RX3 22 "HallSights$Survey" "columns" "[I", .methodLink RX3 39 yX3_cellOf, .static yX3_cellOf, .code yX3_cellOf cX3_cellOf 2 (some .int)] ++ wsX30 ++ wsX00)
def wsX3_pairsInWay : List Cond := .code yX3_pairsInWay cX3_pairsInWay 4 (some .int) :: ([.fieldLink RX3 12 "HallSights$Survey" "hall" "LHallSights$Hall;", .fieldLink RX3 32 "HallSights$Hall" "rows" "I", .fieldLink RX3 36 "HallSights$Hall" "seats" "[I", .fieldLink RX3 18 "HallSights$Survey" "people" "[I", .methodLink RX3 71 yX0_isTaken, .instanceMethod yX0_isTaken, .selects RX0 yX0_isTaken yX0_isTaken, .initialized RX0, .code yX0_isTaken cX0_isTaken 3 (some .boolean), .fieldLink RX0 21 "HallSights$Hall" "taken" "[I", .methodLink RX3 39 yX3_cellOf, .static yX3_cellOf, .initialized RX3, .code yX3_cellOf cX3_cellOf 2 (some .int)] ++ wsX30 ++ wsX00)
def wsX3_placeOf : List Cond := .code yX3_placeOf cX3_placeOf 9 (some .int) :: ([.fieldLink RX3 25 "HallSights$Survey" "ranks" "[I", .fieldLink RX3 12 "HallSights$Survey" "hall" "LHallSights$Hall;", .fieldLink RX3 32 "HallSights$Hall" "rows" "I", .fieldLink RX3 36 "HallSights$Hall" "seats" "[I", .methodLink RX3 39 yX3_cellOf, .static yX3_cellOf, .initialized RX3, .code yX3_cellOf cX3_cellOf 2 (some .int), .methodLink RX3 71 yX0_isTaken, .instanceMethod yX0_isTaken, .selects RX0 yX0_isTaken yX0_isTaken, .initialized RX0, .code yX0_isTaken cX0_isTaken 3 (some .boolean), .fieldLink RX0 21 "HallSights$Hall" "taken" "[I"] ++ wsX30 ++ wsX00)
def wsX3_allInWayOfParty : List Cond := .code yX3_allInWayOfParty cX3_allInWayOfParty 6 (some .int) :: ([.methodLink RX3 52 yX3_allInWay, .instanceMethod yX3_allInWay, .selects RX3 yX3_allInWay yX3_allInWay, .initialized RX3, .code yX3_allInWay cX3_allInWay 4 (some .int), .fieldLink RX3 18 "HallSights$Survey" "people" "[I", .fieldLink RX3 22 "HallSights$Survey" "columns" "[I", .methodLink RX3 39 yX3_cellOf, .static yX3_cellOf, .code yX3_cellOf cX3_cellOf 2 (some .int)] ++ wsX30)
def wsX3_placeForParty_r1 : List Cond := [Cond.fieldLink RX3 12 "HallSights$Survey" "hall" "LHallSights$Hall;", Cond.fieldLink RX3 32 "HallSights$Hall" "rows" "I", Cond.fieldLink RX3 36 "HallSights$Hall" "seats" "[I", Cond.methodLink RX3 78 yX3_allInWayOfParty, Cond.instanceMethod yX3_allInWayOfParty, Cond.selects RX3 yX3_allInWayOfParty yX3_allInWayOfParty, Cond.initialized RX3, Cond.code yX3_allInWayOfParty cX3_allInWayOfParty 6 (some .int), Cond.methodLink RX3 52 yX3_allInWay, Cond.instanceMethod yX3_allInWay, Cond.selects RX3 yX3_allInWay yX3_allInWay, Cond.code yX3_allInWay cX3_allInWay 4 (some .int), Cond.fieldLink RX3 18 "HallSights$Survey" "people" "[I", Cond.fieldLink RX3 22 "HallSights$Survey" "columns" "[I", Cond.methodLink RX3 39 yX3_cellOf, Cond.static yX3_cellOf, Cond.code yX3_cellOf cX3_cellOf 2 (some .int), Cond.methodLink RX3 82 yX0_areFree, Cond.instanceMethod yX0_areFree, Cond.selects RX0 yX0_areFree yX0_areFree, Cond.initialized RX0, Cond.code yX0_areFree cX0_areFree 4 (some .boolean), Cond.fieldLink RX0 21 "HallSights$Hall" "taken" "[I", Cond.methodLink RX0 53 yX0_bitsOf]
def wsX3_placeForParty_r2 : List Cond := [Cond.static yX0_bitsOf, Cond.code yX0_bitsOf cX0_bitsOf 2 (some .int)]
def wsX3_placeForParty : List Cond := .code yX3_placeForParty cX3_placeForParty 7 (some .int) :: ((wsX3_placeForParty_r1 ++ wsX3_placeForParty_r2) ++ wsX30 ++ wsX00)
def wsX4_init_r1 : List Cond := [Cond.methodLink RX4 1 objectInit, Cond.instanceMethod objectInit, Cond.code objectInit ⟨#[0xb1]⟩ 1 none, Cond.classLink RX4 7 RX3, Cond.instantiable RX3 5, Cond.initialized RX3, Cond.fieldLink RX4 10 "HallSights" "survey" "LHallSights$Survey;", Cond.fieldLink RX4 16 "HallSights$Survey" "hall" "LHallSights$Hall;", Cond.fieldLink RX4 20 "HallSights" "hall" "LHallSights$Hall;", Cond.fieldLink RX4 21 "HallSights" "trial" "LHallSights$Survey;", Cond.classLink RX4 24 RX1, Cond.instantiable RX1 2, Cond.initialized RX1, Cond.fieldLink RX4 27 "HallSights" "history" "LHallSights$History;", Cond.classLink RX4 31 RX2, Cond.instantiable RX2 5, Cond.initialized RX2, Cond.fieldLink RX4 34 "HallSights" "text" "LHallSights$RowsText;", Cond.instanceMethod yX3_init, Cond.code yX3_init cX3_init 1 none, Cond.methodLink RX3 3 objectInit, Cond.classLink RX3 9 RX0, Cond.instantiable RX0 10, Cond.initialized RX0]
def wsX4_init_r2 : List Cond := [Cond.fieldLink RX3 12 "HallSights$Survey" "hall" "LHallSights$Hall;", Cond.arrayClass .int, Cond.fieldLink RX3 18 "HallSights$Survey" "people" "[I", Cond.fieldLink RX3 22 "HallSights$Survey" "columns" "[I", Cond.fieldLink RX3 25 "HallSights$Survey" "ranks" "[I", Cond.instanceMethod yX0_init, Cond.code yX0_init cX0_init 1 none, Cond.methodLink RX0 3 objectInit, Cond.fieldLink RX0 9 "HallSights$Hall" "distances" "[I", Cond.fieldLink RX0 15 "HallSights$Hall" "heights" "[I", Cond.fieldLink RX0 18 "HallSights$Hall" "seats" "[I", Cond.fieldLink RX0 21 "HallSights$Hall" "taken" "[I", Cond.fieldLink RX0 24 "HallSights$Hall" "columnDistances" "[I", Cond.fieldLink RX0 27 "HallSights$Hall" "columnSides" "[I", Cond.fieldLink RX0 30 "HallSights$Hall" "columnHalves" "[I", Cond.fieldLink RX0 33 "HallSights$Hall" "settings" "[I", Cond.methodLink RX4 26 yX1_init, Cond.instanceMethod yX1_init, Cond.code yX1_init cX1_init 2 none, Cond.methodLink RX1 3 objectInit, Cond.classLink RX1 9 RX0, Cond.fieldLink RX1 11 "HallSights$History" "kept" "[LHallSights$Hall;", Cond.instanceMethod yX2_init, Cond.code yX2_init cX2_init 1 none]
def wsX4_init_r3 : List Cond := [Cond.methodLink RX2 3 objectInit, Cond.arrayClass .char, Cond.fieldLink RX2 9 "HallSights$RowsText" "signs" "[C", Cond.fieldLink RX2 15 "HallSights$RowsText" "numbers" "[I"]
def wsX4_init : List Cond := .code yX4_init cX4_init 1 none :: ((wsX4_init_r1 ++ (wsX4_init_r2 ++ wsX4_init_r3)) ++ wsX30 ++ wsX40 ++ wsX10 ++ wsX20 ++ wsX00)
def wsX4_checkHeight : List Cond := .code yX4_checkHeight cX4_checkHeight 1 none :: ([.classLink RX4 38 "java/lang/IllegalArgumentException", .initialized "java/lang/IllegalArgumentException"] ++ (vx_atS RX4 42 "java/lang/IllegalArgumentException" ["java/lang/RuntimeException", "java/lang/Exception"]).filter goodWord)
def wsX4_saveState_r1 : List Cond := [Cond.fieldLink RX4 27 "HallSights" "history" "LHallSights$History;", Cond.fieldLink RX4 20 "HallSights" "hall" "LHallSights$Hall;", Cond.fieldLink RX4 10 "HallSights" "survey" "LHallSights$Survey;", Cond.methodLink RX4 260 yX1_keep, Cond.instanceMethod yX1_keep, Cond.selects RX1 yX1_keep yX1_keep, Cond.initialized RX1, Cond.code yX1_keep cX1_keep 2 none, Cond.fieldLink RX1 18 "HallSights$History" "size" "I", Cond.fieldLink RX1 11 "HallSights$History" "kept" "[LHallSights$Hall;", Cond.methodLink RX1 22 yX1_dropOldest, Cond.instanceMethod yX1_dropOldest, Cond.selects RX1 yX1_dropOldest yX1_dropOldest, Cond.code yX1_dropOldest cX1_dropOldest 3 none, Cond.methodLink RX1 25 yX0_copyFrom, Cond.instanceMethod yX0_copyFrom, Cond.selects RX0 yX0_copyFrom yX0_copyFrom, Cond.initialized RX0, Cond.code yX0_copyFrom cX0_copyFrom 2 none, Cond.fieldLink RX0 36 "HallSights$Hall" "rows" "I", Cond.fieldLink RX0 9 "HallSights$Hall" "distances" "[I", Cond.methodLink RX0 40 arraycopyName, Cond.native arraycopyName, Cond.static arraycopyName]
def wsX4_saveState_r2 : List Cond := [Cond.initialized "java/lang/System", Cond.fieldLink RX0 15 "HallSights$Hall" "heights" "[I", Cond.fieldLink RX0 18 "HallSights$Hall" "seats" "[I", Cond.fieldLink RX0 21 "HallSights$Hall" "taken" "[I", Cond.fieldLink RX0 46 "HallSights$Hall" "columns" "I", Cond.fieldLink RX0 24 "HallSights$Hall" "columnDistances" "[I", Cond.fieldLink RX0 27 "HallSights$Hall" "columnSides" "[I", Cond.fieldLink RX0 30 "HallSights$Hall" "columnHalves" "[I", Cond.fieldLink RX0 33 "HallSights$Hall" "settings" "[I", Cond.methodLink RX4 203 yX3_forget, Cond.instanceMethod yX3_forget, Cond.selects RX3 yX3_forget yX3_forget, Cond.initialized RX3, Cond.code yX3_forget cX3_forget 1 none, Cond.fieldLink RX3 28 "HallSights$Survey" "looked" "Z"]
def wsX4_saveState : List Cond := .code yX4_saveState cX4_saveState 1 none :: ((wsX4_saveState_r1 ++ wsX4_saveState_r2) ++ wsX40 ++ wsX10 ++ wsX00 ++ wsX30)
def wsX4_addRow_r1 : List Cond := [Cond.classLink RX4 38 "java/lang/IllegalArgumentException", Cond.initialized "java/lang/IllegalArgumentException", Cond.classLink RX4 57 "java/lang/IllegalStateException", Cond.initialized "java/lang/IllegalStateException", Cond.fieldLink RX4 20 "HallSights" "hall" "LHallSights$Hall;", Cond.methodLink RX4 45 yX4_checkHeight, Cond.static yX4_checkHeight, Cond.initialized RX4, Cond.code yX4_checkHeight cX4_checkHeight 1 none, Cond.methodLink RX4 51 yX0_hasRoomForRow, Cond.instanceMethod yX0_hasRoomForRow, Cond.selects RX0 yX0_hasRoomForRow yX0_hasRoomForRow, Cond.initialized RX0, Cond.code yX0_hasRoomForRow cX0_hasRoomForRow 3 (some .boolean), Cond.fieldLink RX0 36 "HallSights$Hall" "rows" "I", Cond.fieldLink RX0 9 "HallSights$Hall" "distances" "[I", Cond.methodLink RX4 62 yX4_saveState, Cond.instanceMethod yX4_saveState, Cond.selects RX4 yX4_saveState yX4_saveState, Cond.code yX4_saveState cX4_saveState 1 none, Cond.fieldLink RX4 27 "HallSights" "history" "LHallSights$History;", Cond.fieldLink RX4 10 "HallSights" "survey" "LHallSights$Survey;", Cond.methodLink RX4 260 yX1_keep, Cond.instanceMethod yX1_keep]
def wsX4_addRow_r2 : List Cond := [Cond.selects RX1 yX1_keep yX1_keep, Cond.initialized RX1, Cond.code yX1_keep cX1_keep 2 none, Cond.fieldLink RX1 18 "HallSights$History" "size" "I", Cond.fieldLink RX1 11 "HallSights$History" "kept" "[LHallSights$Hall;", Cond.methodLink RX1 22 yX1_dropOldest, Cond.instanceMethod yX1_dropOldest, Cond.selects RX1 yX1_dropOldest yX1_dropOldest, Cond.code yX1_dropOldest cX1_dropOldest 3 none, Cond.methodLink RX1 25 yX0_copyFrom, Cond.instanceMethod yX0_copyFrom, Cond.selects RX0 yX0_copyFrom yX0_copyFrom, Cond.code yX0_copyFrom cX0_copyFrom 2 none, Cond.methodLink RX0 40 arraycopyName, Cond.native arraycopyName, Cond.static arraycopyName, Cond.initialized "java/lang/System", Cond.fieldLink RX0 15 "HallSights$Hall" "heights" "[I", Cond.fieldLink RX0 18 "HallSights$Hall" "seats" "[I", Cond.fieldLink RX0 21 "HallSights$Hall" "taken" "[I", Cond.fieldLink RX0 46 "HallSights$Hall" "columns" "I", Cond.fieldLink RX0 24 "HallSights$Hall" "columnDistances" "[I", Cond.fieldLink RX0 27 "HallSights$Hall" "columnSides" "[I", Cond.fieldLink RX0 30 "HallSights$Hall" "columnHalves" "[I"]
def wsX4_addRow_r3 : List Cond := [Cond.fieldLink RX0 33 "HallSights$Hall" "settings" "[I", Cond.methodLink RX4 203 yX3_forget, Cond.instanceMethod yX3_forget, Cond.selects RX3 yX3_forget yX3_forget, Cond.initialized RX3, Cond.code yX3_forget cX3_forget 1 none, Cond.fieldLink RX3 28 "HallSights$Survey" "looked" "Z", Cond.methodLink RX4 65 yX0_insertRow, Cond.instanceMethod yX0_insertRow, Cond.selects RX0 yX0_insertRow yX0_insertRow, Cond.code yX0_insertRow cX0_insertRow 5 (some .int), Cond.methodLink RX0 49 yX0_moveRow, Cond.instanceMethod yX0_moveRow, Cond.selects RX0 yX0_moveRow yX0_moveRow, Cond.code yX0_moveRow cX0_moveRow 3 none]
def wsX4_addRow : List Cond := .code yX4_addRow cX4_addRow 4 (some .int) :: ((wsX4_addRow_r1 ++ (wsX4_addRow_r2 ++ wsX4_addRow_r3)) ++ wsX40 ++ wsX00 ++ wsX10 ++ wsX30 ++ (vx_atS RX4 42 "java/lang/IllegalArgumentException" ["java/lang/RuntimeException", "java/lang/Exception"]).filter goodWord ++ (vx_atS RX4 61 "java/lang/IllegalStateException" ["java/lang/RuntimeException", "java/lang/Exception"]).filter goodWord)
def wsX4_checkRow : List Cond := .code yX4_checkRow cX4_checkRow 2 none :: ([.classLink RX4 263 "java/lang/IndexOutOfBoundsException", .initialized "java/lang/IndexOutOfBoundsException", .fieldLink RX4 20 "HallSights" "hall" "LHallSights$Hall;", .fieldLink RX4 156 "HallSights$Hall" "rows" "I"] ++ wsX40 ++ wsX00 ++ (vx_atS RX4 267 "java/lang/IndexOutOfBoundsException" ["java/lang/RuntimeException", "java/lang/Exception"]).filter goodWord)
def wsX4_removeRow_r1 : List Cond := [Cond.fieldLink RX4 20 "HallSights" "hall" "LHallSights$Hall;", Cond.methodLink RX4 69 yX4_checkRow, Cond.instanceMethod yX4_checkRow, Cond.selects RX4 yX4_checkRow yX4_checkRow, Cond.initialized RX4, Cond.code yX4_checkRow cX4_checkRow 2 none, Cond.classLink RX4 263 "java/lang/IndexOutOfBoundsException", Cond.initialized "java/lang/IndexOutOfBoundsException", Cond.fieldLink RX4 156 "HallSights$Hall" "rows" "I", Cond.methodLink RX4 62 yX4_saveState, Cond.instanceMethod yX4_saveState, Cond.selects RX4 yX4_saveState yX4_saveState, Cond.code yX4_saveState cX4_saveState 1 none, Cond.fieldLink RX4 27 "HallSights" "history" "LHallSights$History;", Cond.fieldLink RX4 10 "HallSights" "survey" "LHallSights$Survey;", Cond.methodLink RX4 260 yX1_keep, Cond.instanceMethod yX1_keep, Cond.selects RX1 yX1_keep yX1_keep, Cond.initialized RX1, Cond.code yX1_keep cX1_keep 2 none, Cond.fieldLink RX1 18 "HallSights$History" "size" "I", Cond.fieldLink RX1 11 "HallSights$History" "kept" "[LHallSights$Hall;", Cond.methodLink RX1 22 yX1_dropOldest, Cond.instanceMethod yX1_dropOldest]
def wsX4_removeRow_r2 : List Cond := [Cond.selects RX1 yX1_dropOldest yX1_dropOldest, Cond.code yX1_dropOldest cX1_dropOldest 3 none, Cond.methodLink RX1 25 yX0_copyFrom, Cond.instanceMethod yX0_copyFrom, Cond.selects RX0 yX0_copyFrom yX0_copyFrom, Cond.initialized RX0, Cond.code yX0_copyFrom cX0_copyFrom 2 none, Cond.fieldLink RX0 36 "HallSights$Hall" "rows" "I", Cond.fieldLink RX0 9 "HallSights$Hall" "distances" "[I", Cond.methodLink RX0 40 arraycopyName, Cond.native arraycopyName, Cond.static arraycopyName, Cond.initialized "java/lang/System", Cond.fieldLink RX0 15 "HallSights$Hall" "heights" "[I", Cond.fieldLink RX0 18 "HallSights$Hall" "seats" "[I", Cond.fieldLink RX0 21 "HallSights$Hall" "taken" "[I", Cond.fieldLink RX0 46 "HallSights$Hall" "columns" "I", Cond.fieldLink RX0 24 "HallSights$Hall" "columnDistances" "[I", Cond.fieldLink RX0 27 "HallSights$Hall" "columnSides" "[I", Cond.fieldLink RX0 30 "HallSights$Hall" "columnHalves" "[I", Cond.fieldLink RX0 33 "HallSights$Hall" "settings" "[I", Cond.methodLink RX4 203 yX3_forget, Cond.instanceMethod yX3_forget, Cond.selects RX3 yX3_forget yX3_forget]
def wsX4_removeRow_r3 : List Cond := [Cond.initialized RX3, Cond.code yX3_forget cX3_forget 1 none, Cond.fieldLink RX3 28 "HallSights$Survey" "looked" "Z", Cond.methodLink RX4 72 yX0_deleteRow, Cond.instanceMethod yX0_deleteRow, Cond.selects RX0 yX0_deleteRow yX0_deleteRow, Cond.code yX0_deleteRow cX0_deleteRow 3 none, Cond.methodLink RX0 49 yX0_moveRow, Cond.instanceMethod yX0_moveRow, Cond.selects RX0 yX0_moveRow yX0_moveRow, Cond.code yX0_moveRow cX0_moveRow 3 none, Cond.methodLink RX4 75 yX0_seatsInAll, Cond.instanceMethod yX0_seatsInAll, Cond.selects RX0 yX0_seatsInAll yX0_seatsInAll, Cond.code yX0_seatsInAll cX0_seatsInAll 3 (some .int)]
def wsX4_removeRow : List Cond := .code yX4_removeRow cX4_removeRow 2 (some .int) :: ((wsX4_removeRow_r1 ++ (wsX4_removeRow_r2 ++ wsX4_removeRow_r3)) ++ wsX40 ++ wsX00 ++ wsX10 ++ wsX30 ++ (vx_atS RX4 267 "java/lang/IndexOutOfBoundsException" ["java/lang/RuntimeException", "java/lang/Exception"]).filter goodWord)
def wsX4_lift_r1 : List Cond := [Cond.fieldLink RX4 20 "HallSights" "hall" "LHallSights$Hall;", Cond.fieldLink RX4 79 "HallSights$Hall" "heights" "[I", Cond.methodLink RX4 69 yX4_checkRow, Cond.instanceMethod yX4_checkRow, Cond.selects RX4 yX4_checkRow yX4_checkRow, Cond.initialized RX4, Cond.code yX4_checkRow cX4_checkRow 2 none, Cond.classLink RX4 263 "java/lang/IndexOutOfBoundsException", Cond.initialized "java/lang/IndexOutOfBoundsException", Cond.fieldLink RX4 156 "HallSights$Hall" "rows" "I", Cond.methodLink RX4 45 yX4_checkHeight, Cond.static yX4_checkHeight, Cond.code yX4_checkHeight cX4_checkHeight 1 none, Cond.classLink RX4 38 "java/lang/IllegalArgumentException", Cond.initialized "java/lang/IllegalArgumentException", Cond.methodLink RX4 62 yX4_saveState, Cond.instanceMethod yX4_saveState, Cond.selects RX4 yX4_saveState yX4_saveState, Cond.code yX4_saveState cX4_saveState 1 none, Cond.fieldLink RX4 27 "HallSights" "history" "LHallSights$History;", Cond.fieldLink RX4 10 "HallSights" "survey" "LHallSights$Survey;", Cond.methodLink RX4 260 yX1_keep, Cond.instanceMethod yX1_keep, Cond.selects RX1 yX1_keep yX1_keep]
def wsX4_lift_r2 : List Cond := [Cond.initialized RX1, Cond.code yX1_keep cX1_keep 2 none, Cond.fieldLink RX1 18 "HallSights$History" "size" "I", Cond.fieldLink RX1 11 "HallSights$History" "kept" "[LHallSights$Hall;", Cond.methodLink RX1 22 yX1_dropOldest, Cond.instanceMethod yX1_dropOldest, Cond.selects RX1 yX1_dropOldest yX1_dropOldest, Cond.code yX1_dropOldest cX1_dropOldest 3 none, Cond.methodLink RX1 25 yX0_copyFrom, Cond.instanceMethod yX0_copyFrom, Cond.selects RX0 yX0_copyFrom yX0_copyFrom, Cond.initialized RX0, Cond.code yX0_copyFrom cX0_copyFrom 2 none, Cond.fieldLink RX0 36 "HallSights$Hall" "rows" "I", Cond.fieldLink RX0 9 "HallSights$Hall" "distances" "[I", Cond.methodLink RX0 40 arraycopyName, Cond.native arraycopyName, Cond.static arraycopyName, Cond.initialized "java/lang/System", Cond.fieldLink RX0 15 "HallSights$Hall" "heights" "[I", Cond.fieldLink RX0 18 "HallSights$Hall" "seats" "[I", Cond.fieldLink RX0 21 "HallSights$Hall" "taken" "[I", Cond.fieldLink RX0 46 "HallSights$Hall" "columns" "I", Cond.fieldLink RX0 24 "HallSights$Hall" "columnDistances" "[I"]
def wsX4_lift_r3 : List Cond := [Cond.fieldLink RX0 27 "HallSights$Hall" "columnSides" "[I", Cond.fieldLink RX0 30 "HallSights$Hall" "columnHalves" "[I", Cond.fieldLink RX0 33 "HallSights$Hall" "settings" "[I", Cond.methodLink RX4 203 yX3_forget, Cond.instanceMethod yX3_forget, Cond.selects RX3 yX3_forget yX3_forget, Cond.initialized RX3, Cond.code yX3_forget cX3_forget 1 none, Cond.fieldLink RX3 28 "HallSights$Survey" "looked" "Z"]
def wsX4_lift : List Cond := .code yX4_lift cX4_lift 4 (some .int) :: ((wsX4_lift_r1 ++ (wsX4_lift_r2 ++ wsX4_lift_r3)) ++ wsX40 ++ wsX00 ++ wsX10 ++ wsX30 ++ (vx_atS RX4 267 "java/lang/IndexOutOfBoundsException" ["java/lang/RuntimeException", "java/lang/Exception"]).filter goodWord ++ (vx_atS RX4 42 "java/lang/IllegalArgumentException" ["java/lang/RuntimeException", "java/lang/Exception"]).filter goodWord)
def wsX4_addColumn_r1 : List Cond := [Cond.classLink RX4 38 "java/lang/IllegalArgumentException", Cond.initialized "java/lang/IllegalArgumentException", Cond.classLink RX4 57 "java/lang/IllegalStateException", Cond.initialized "java/lang/IllegalStateException", Cond.fieldLink RX4 20 "HallSights" "hall" "LHallSights$Hall;", Cond.fieldLink RX4 87 "HallSights$Hall" "columns" "I", Cond.methodLink RX4 62 yX4_saveState, Cond.instanceMethod yX4_saveState, Cond.selects RX4 yX4_saveState yX4_saveState, Cond.initialized RX4, Cond.code yX4_saveState cX4_saveState 1 none, Cond.fieldLink RX4 27 "HallSights" "history" "LHallSights$History;", Cond.fieldLink RX4 10 "HallSights" "survey" "LHallSights$Survey;", Cond.methodLink RX4 260 yX1_keep, Cond.instanceMethod yX1_keep, Cond.selects RX1 yX1_keep yX1_keep, Cond.initialized RX1, Cond.code yX1_keep cX1_keep 2 none, Cond.fieldLink RX1 18 "HallSights$History" "size" "I", Cond.fieldLink RX1 11 "HallSights$History" "kept" "[LHallSights$Hall;", Cond.methodLink RX1 22 yX1_dropOldest, Cond.instanceMethod yX1_dropOldest, Cond.selects RX1 yX1_dropOldest yX1_dropOldest, Cond.code yX1_dropOldest cX1_dropOldest 3 none]
def wsX4_addColumn_r2 : List Cond := [Cond.methodLink RX1 25 yX0_copyFrom, Cond.instanceMethod yX0_copyFrom, Cond.selects RX0 yX0_copyFrom yX0_copyFrom, Cond.initialized RX0, Cond.code yX0_copyFrom cX0_copyFrom 2 none, Cond.fieldLink RX0 36 "HallSights$Hall" "rows" "I", Cond.fieldLink RX0 9 "HallSights$Hall" "distances" "[I", Cond.methodLink RX0 40 arraycopyName, Cond.native arraycopyName, Cond.static arraycopyName, Cond.initialized "java/lang/System", Cond.fieldLink RX0 15 "HallSights$Hall" "heights" "[I", Cond.fieldLink RX0 18 "HallSights$Hall" "seats" "[I", Cond.fieldLink RX0 21 "HallSights$Hall" "taken" "[I", Cond.fieldLink RX0 46 "HallSights$Hall" "columns" "I", Cond.fieldLink RX0 24 "HallSights$Hall" "columnDistances" "[I", Cond.fieldLink RX0 27 "HallSights$Hall" "columnSides" "[I", Cond.fieldLink RX0 30 "HallSights$Hall" "columnHalves" "[I", Cond.fieldLink RX0 33 "HallSights$Hall" "settings" "[I", Cond.methodLink RX4 203 yX3_forget, Cond.instanceMethod yX3_forget, Cond.selects RX3 yX3_forget yX3_forget, Cond.initialized RX3, Cond.code yX3_forget cX3_forget 1 none]
def wsX4_addColumn_r3 : List Cond := [Cond.fieldLink RX3 28 "HallSights$Survey" "looked" "Z", Cond.methodLink RX4 93 yX0_insertColumn, Cond.instanceMethod yX0_insertColumn, Cond.selects RX0 yX0_insertColumn yX0_insertColumn, Cond.code yX0_insertColumn cX0_insertColumn 4 (some .int)]
def wsX4_addColumn : List Cond := .code yX4_addColumn cX4_addColumn 4 (some .int) :: ((wsX4_addColumn_r1 ++ (wsX4_addColumn_r2 ++ wsX4_addColumn_r3)) ++ wsX40 ++ wsX00 ++ wsX10 ++ wsX30 ++ (vx_atS RX4 42 "java/lang/IllegalArgumentException" ["java/lang/RuntimeException", "java/lang/Exception"]).filter goodWord ++ (vx_atS RX4 61 "java/lang/IllegalStateException" ["java/lang/RuntimeException", "java/lang/Exception"]).filter goodWord)
def wsX4_checkColumn : List Cond := .code yX4_checkColumn cX4_checkColumn 2 none :: ([.classLink RX4 263 "java/lang/IndexOutOfBoundsException", .initialized "java/lang/IndexOutOfBoundsException", .fieldLink RX4 20 "HallSights" "hall" "LHallSights$Hall;", .fieldLink RX4 87 "HallSights$Hall" "columns" "I"] ++ wsX40 ++ wsX00 ++ (vx_atS RX4 267 "java/lang/IndexOutOfBoundsException" ["java/lang/RuntimeException", "java/lang/Exception"]).filter goodWord)
def wsX4_removeColumn_r1 : List Cond := [Cond.fieldLink RX4 20 "HallSights" "hall" "LHallSights$Hall;", Cond.fieldLink RX4 87 "HallSights$Hall" "columns" "I", Cond.methodLink RX4 96 yX4_checkColumn, Cond.instanceMethod yX4_checkColumn, Cond.selects RX4 yX4_checkColumn yX4_checkColumn, Cond.initialized RX4, Cond.code yX4_checkColumn cX4_checkColumn 2 none, Cond.classLink RX4 263 "java/lang/IndexOutOfBoundsException", Cond.initialized "java/lang/IndexOutOfBoundsException", Cond.methodLink RX4 62 yX4_saveState, Cond.instanceMethod yX4_saveState, Cond.selects RX4 yX4_saveState yX4_saveState, Cond.code yX4_saveState cX4_saveState 1 none, Cond.fieldLink RX4 27 "HallSights" "history" "LHallSights$History;", Cond.fieldLink RX4 10 "HallSights" "survey" "LHallSights$Survey;", Cond.methodLink RX4 260 yX1_keep, Cond.instanceMethod yX1_keep, Cond.selects RX1 yX1_keep yX1_keep, Cond.initialized RX1, Cond.code yX1_keep cX1_keep 2 none, Cond.fieldLink RX1 18 "HallSights$History" "size" "I", Cond.fieldLink RX1 11 "HallSights$History" "kept" "[LHallSights$Hall;", Cond.methodLink RX1 22 yX1_dropOldest, Cond.instanceMethod yX1_dropOldest]
def wsX4_removeColumn_r2 : List Cond := [Cond.selects RX1 yX1_dropOldest yX1_dropOldest, Cond.code yX1_dropOldest cX1_dropOldest 3 none, Cond.methodLink RX1 25 yX0_copyFrom, Cond.instanceMethod yX0_copyFrom, Cond.selects RX0 yX0_copyFrom yX0_copyFrom, Cond.initialized RX0, Cond.code yX0_copyFrom cX0_copyFrom 2 none, Cond.fieldLink RX0 36 "HallSights$Hall" "rows" "I", Cond.fieldLink RX0 9 "HallSights$Hall" "distances" "[I", Cond.methodLink RX0 40 arraycopyName, Cond.native arraycopyName, Cond.static arraycopyName, Cond.initialized "java/lang/System", Cond.fieldLink RX0 15 "HallSights$Hall" "heights" "[I", Cond.fieldLink RX0 18 "HallSights$Hall" "seats" "[I", Cond.fieldLink RX0 21 "HallSights$Hall" "taken" "[I", Cond.fieldLink RX0 46 "HallSights$Hall" "columns" "I", Cond.fieldLink RX0 24 "HallSights$Hall" "columnDistances" "[I", Cond.fieldLink RX0 27 "HallSights$Hall" "columnSides" "[I", Cond.fieldLink RX0 30 "HallSights$Hall" "columnHalves" "[I", Cond.fieldLink RX0 33 "HallSights$Hall" "settings" "[I", Cond.methodLink RX4 203 yX3_forget, Cond.instanceMethod yX3_forget, Cond.selects RX3 yX3_forget yX3_forget]
def wsX4_removeColumn_r3 : List Cond := [Cond.initialized RX3, Cond.code yX3_forget cX3_forget 1 none, Cond.fieldLink RX3 28 "HallSights$Survey" "looked" "Z", Cond.methodLink RX4 99 yX0_deleteColumn, Cond.instanceMethod yX0_deleteColumn, Cond.selects RX0 yX0_deleteColumn yX0_deleteColumn, Cond.code yX0_deleteColumn cX0_deleteColumn 3 none]
def wsX4_removeColumn : List Cond := .code yX4_removeColumn cX4_removeColumn 2 (some .int) :: ((wsX4_removeColumn_r1 ++ (wsX4_removeColumn_r2 ++ wsX4_removeColumn_r3)) ++ wsX40 ++ wsX00 ++ wsX10 ++ wsX30 ++ (vx_atS RX4 267 "java/lang/IndexOutOfBoundsException" ["java/lang/RuntimeException", "java/lang/Exception"]).filter goodWord)
def wsX4_checkSetting : List Cond := .code yX4_checkSetting cX4_checkSetting 1 none :: ([.classLink RX4 263 "java/lang/IndexOutOfBoundsException", .initialized "java/lang/IndexOutOfBoundsException"] ++ (vx_atS RX4 267 "java/lang/IndexOutOfBoundsException" ["java/lang/RuntimeException", "java/lang/Exception"]).filter goodWord)
def wsX4_set_r1 : List Cond := [Cond.classLink RX4 38 "java/lang/IllegalArgumentException", Cond.initialized "java/lang/IllegalArgumentException", Cond.fieldLink RX4 105 "HallSights" "LEAST_OF_SETTING" "[I", Cond.fieldLink RX4 108 "HallSights" "MOST_OF_SETTING" "[I", Cond.fieldLink RX4 20 "HallSights" "hall" "LHallSights$Hall;", Cond.fieldLink RX4 113 "HallSights$Hall" "settings" "[I", Cond.methodLink RX4 102 yX4_checkSetting, Cond.static yX4_checkSetting, Cond.initialized RX4, Cond.code yX4_checkSetting cX4_checkSetting 1 none, Cond.classLink RX4 263 "java/lang/IndexOutOfBoundsException", Cond.initialized "java/lang/IndexOutOfBoundsException", Cond.methodLink RX4 62 yX4_saveState, Cond.instanceMethod yX4_saveState, Cond.selects RX4 yX4_saveState yX4_saveState, Cond.code yX4_saveState cX4_saveState 1 none, Cond.fieldLink RX4 27 "HallSights" "history" "LHallSights$History;", Cond.fieldLink RX4 10 "HallSights" "survey" "LHallSights$Survey;", Cond.methodLink RX4 260 yX1_keep, Cond.instanceMethod yX1_keep, Cond.selects RX1 yX1_keep yX1_keep, Cond.initialized RX1, Cond.code yX1_keep cX1_keep 2 none, Cond.fieldLink RX1 18 "HallSights$History" "size" "I"]
def wsX4_set_r2 : List Cond := [Cond.fieldLink RX1 11 "HallSights$History" "kept" "[LHallSights$Hall;", Cond.methodLink RX1 22 yX1_dropOldest, Cond.instanceMethod yX1_dropOldest, Cond.selects RX1 yX1_dropOldest yX1_dropOldest, Cond.code yX1_dropOldest cX1_dropOldest 3 none, Cond.methodLink RX1 25 yX0_copyFrom, Cond.instanceMethod yX0_copyFrom, Cond.selects RX0 yX0_copyFrom yX0_copyFrom, Cond.initialized RX0, Cond.code yX0_copyFrom cX0_copyFrom 2 none, Cond.fieldLink RX0 36 "HallSights$Hall" "rows" "I", Cond.fieldLink RX0 9 "HallSights$Hall" "distances" "[I", Cond.methodLink RX0 40 arraycopyName, Cond.native arraycopyName, Cond.static arraycopyName, Cond.initialized "java/lang/System", Cond.fieldLink RX0 15 "HallSights$Hall" "heights" "[I", Cond.fieldLink RX0 18 "HallSights$Hall" "seats" "[I", Cond.fieldLink RX0 21 "HallSights$Hall" "taken" "[I", Cond.fieldLink RX0 46 "HallSights$Hall" "columns" "I", Cond.fieldLink RX0 24 "HallSights$Hall" "columnDistances" "[I", Cond.fieldLink RX0 27 "HallSights$Hall" "columnSides" "[I", Cond.fieldLink RX0 30 "HallSights$Hall" "columnHalves" "[I", Cond.fieldLink RX0 33 "HallSights$Hall" "settings" "[I"]
def wsX4_set_r3 : List Cond := [Cond.methodLink RX4 203 yX3_forget, Cond.instanceMethod yX3_forget, Cond.selects RX3 yX3_forget yX3_forget, Cond.initialized RX3, Cond.code yX3_forget cX3_forget 1 none, Cond.fieldLink RX3 28 "HallSights$Survey" "looked" "Z"]
def wsX4_set : List Cond := .code yX4_set cX4_set 4 (some .int) :: ((wsX4_set_r1 ++ (wsX4_set_r2 ++ wsX4_set_r3)) ++ wsX40 ++ wsX00 ++ wsX10 ++ wsX30 ++ (vx_atS RX4 42 "java/lang/IllegalArgumentException" ["java/lang/RuntimeException", "java/lang/Exception"]).filter goodWord ++ (vx_atS RX4 267 "java/lang/IndexOutOfBoundsException" ["java/lang/RuntimeException", "java/lang/Exception"]).filter goodWord)
def wsX4_checkSeat : List Cond := .code yX4_checkSeat cX4_checkSeat 3 none :: ([.classLink RX4 263 "java/lang/IndexOutOfBoundsException", .initialized "java/lang/IndexOutOfBoundsException", .fieldLink RX4 20 "HallSights" "hall" "LHallSights$Hall;", .fieldLink RX4 268 "HallSights$Hall" "seats" "[I", .methodLink RX4 69 yX4_checkRow, .instanceMethod yX4_checkRow, .selects RX4 yX4_checkRow yX4_checkRow, .initialized RX4, .code yX4_checkRow cX4_checkRow 2 none, .fieldLink RX4 156 "HallSights$Hall" "rows" "I"] ++ wsX40 ++ wsX00 ++ (vx_atS RX4 267 "java/lang/IndexOutOfBoundsException" ["java/lang/RuntimeException", "java/lang/Exception"]).filter goodWord)
def wsX4_take_r1 : List Cond := [Cond.classLink RX4 57 "java/lang/IllegalStateException", Cond.initialized "java/lang/IllegalStateException", Cond.fieldLink RX4 20 "HallSights" "hall" "LHallSights$Hall;", Cond.methodLink RX4 116 yX4_checkSeat, Cond.instanceMethod yX4_checkSeat, Cond.selects RX4 yX4_checkSeat yX4_checkSeat, Cond.initialized RX4, Cond.code yX4_checkSeat cX4_checkSeat 3 none, Cond.classLink RX4 263 "java/lang/IndexOutOfBoundsException", Cond.initialized "java/lang/IndexOutOfBoundsException", Cond.fieldLink RX4 268 "HallSights$Hall" "seats" "[I", Cond.methodLink RX4 69 yX4_checkRow, Cond.instanceMethod yX4_checkRow, Cond.selects RX4 yX4_checkRow yX4_checkRow, Cond.code yX4_checkRow cX4_checkRow 2 none, Cond.fieldLink RX4 156 "HallSights$Hall" "rows" "I", Cond.methodLink RX4 120 yX0_isTaken, Cond.instanceMethod yX0_isTaken, Cond.selects RX0 yX0_isTaken yX0_isTaken, Cond.initialized RX0, Cond.code yX0_isTaken cX0_isTaken 3 (some .boolean), Cond.fieldLink RX0 21 "HallSights$Hall" "taken" "[I", Cond.methodLink RX4 62 yX4_saveState, Cond.instanceMethod yX4_saveState]
def wsX4_take_r2 : List Cond := [Cond.selects RX4 yX4_saveState yX4_saveState, Cond.code yX4_saveState cX4_saveState 1 none, Cond.fieldLink RX4 27 "HallSights" "history" "LHallSights$History;", Cond.fieldLink RX4 10 "HallSights" "survey" "LHallSights$Survey;", Cond.methodLink RX4 260 yX1_keep, Cond.instanceMethod yX1_keep, Cond.selects RX1 yX1_keep yX1_keep, Cond.initialized RX1, Cond.code yX1_keep cX1_keep 2 none, Cond.fieldLink RX1 18 "HallSights$History" "size" "I", Cond.fieldLink RX1 11 "HallSights$History" "kept" "[LHallSights$Hall;", Cond.methodLink RX1 22 yX1_dropOldest, Cond.instanceMethod yX1_dropOldest, Cond.selects RX1 yX1_dropOldest yX1_dropOldest, Cond.code yX1_dropOldest cX1_dropOldest 3 none, Cond.methodLink RX1 25 yX0_copyFrom, Cond.instanceMethod yX0_copyFrom, Cond.selects RX0 yX0_copyFrom yX0_copyFrom, Cond.code yX0_copyFrom cX0_copyFrom 2 none, Cond.fieldLink RX0 36 "HallSights$Hall" "rows" "I", Cond.fieldLink RX0 9 "HallSights$Hall" "distances" "[I", Cond.methodLink RX0 40 arraycopyName, Cond.native arraycopyName, Cond.static arraycopyName]
def wsX4_take_r3 : List Cond := [Cond.initialized "java/lang/System", Cond.fieldLink RX0 15 "HallSights$Hall" "heights" "[I", Cond.fieldLink RX0 18 "HallSights$Hall" "seats" "[I", Cond.fieldLink RX0 46 "HallSights$Hall" "columns" "I", Cond.fieldLink RX0 24 "HallSights$Hall" "columnDistances" "[I", Cond.fieldLink RX0 27 "HallSights$Hall" "columnSides" "[I", Cond.fieldLink RX0 30 "HallSights$Hall" "columnHalves" "[I", Cond.fieldLink RX0 33 "HallSights$Hall" "settings" "[I", Cond.methodLink RX4 203 yX3_forget, Cond.instanceMethod yX3_forget, Cond.selects RX3 yX3_forget yX3_forget, Cond.initialized RX3, Cond.code yX3_forget cX3_forget 1 none, Cond.fieldLink RX3 28 "HallSights$Survey" "looked" "Z", Cond.methodLink RX4 126 yX0_occupy, Cond.instanceMethod yX0_occupy, Cond.selects RX0 yX0_occupy yX0_occupy, Cond.code yX0_occupy cX0_occupy 4 none, Cond.methodLink RX0 53 yX0_bitsOf, Cond.static yX0_bitsOf, Cond.code yX0_bitsOf cX0_bitsOf 2 (some .int), Cond.methodLink RX4 130 yX0_peopleInWay, Cond.instanceMethod yX0_peopleInWay, Cond.selects RX0 yX0_peopleInWay yX0_peopleInWay]
def wsX4_take_r4 : List Cond := [Cond.code yX0_peopleInWay cX0_peopleInWay 6 (some .int), Cond.methodLink RX0 66 yX0_isTaken, Cond.methodLink RX0 87 yX0_isHeadInWay, Cond.instanceMethod yX0_isHeadInWay, Cond.selects RX0 yX0_isHeadInWay yX0_isHeadInWay, Cond.code yX0_isHeadInWay cX0_isHeadInWay 8 (some .boolean), Cond.methodLink RX0 78 Lib.Math.abs.name, Cond.static Lib.Math.abs.name, Cond.initialized "java/lang/Math", Cond.code Lib.Math.abs.name Lib.Math.abs.code 1 (some .int), Cond.methodLink RX0 75 yX0_sideOf, Cond.instanceMethod yX0_sideOf, Cond.selects RX0 yX0_sideOf yX0_sideOf, Cond.code yX0_sideOf cX0_sideOf 3 (some .int), Cond.methodLink RX0 81 yX0_headOverPoint, Cond.instanceMethod yX0_headOverPoint, Cond.selects RX0 yX0_headOverPoint yX0_headOverPoint, Cond.code yX0_headOverPoint cX0_headOverPoint 2 (some .int), Cond.methodLink RX0 84 yX0_eyeOverPoint, Cond.instanceMethod yX0_eyeOverPoint, Cond.selects RX0 yX0_eyeOverPoint yX0_eyeOverPoint, Cond.code yX0_eyeOverPoint cX0_eyeOverPoint 2 (some .int)]
def wsX4_take : List Cond := .code yX4_take cX4_take 3 (some .int) :: ((wsX4_take_r1 ++ (wsX4_take_r2 ++ (wsX4_take_r3 ++ wsX4_take_r4))) ++ wsX40 ++ wsX00 ++ wsX10 ++ wsX30 ++ (vx_atS RX4 61 "java/lang/IllegalStateException" ["java/lang/RuntimeException", "java/lang/Exception"]).filter goodWord ++ (vx_atS RX4 267 "java/lang/IndexOutOfBoundsException" ["java/lang/RuntimeException", "java/lang/Exception"]).filter goodWord)
def wsX4_leave_r1 : List Cond := [Cond.classLink RX4 57 "java/lang/IllegalStateException", Cond.initialized "java/lang/IllegalStateException", Cond.fieldLink RX4 20 "HallSights" "hall" "LHallSights$Hall;", Cond.methodLink RX4 116 yX4_checkSeat, Cond.instanceMethod yX4_checkSeat, Cond.selects RX4 yX4_checkSeat yX4_checkSeat, Cond.initialized RX4, Cond.code yX4_checkSeat cX4_checkSeat 3 none, Cond.classLink RX4 263 "java/lang/IndexOutOfBoundsException", Cond.initialized "java/lang/IndexOutOfBoundsException", Cond.fieldLink RX4 268 "HallSights$Hall" "seats" "[I", Cond.methodLink RX4 69 yX4_checkRow, Cond.instanceMethod yX4_checkRow, Cond.selects RX4 yX4_checkRow yX4_checkRow, Cond.code yX4_checkRow cX4_checkRow 2 none, Cond.fieldLink RX4 156 "HallSights$Hall" "rows" "I", Cond.methodLink RX4 120 yX0_isTaken, Cond.instanceMethod yX0_isTaken, Cond.selects RX0 yX0_isTaken yX0_isTaken, Cond.initialized RX0, Cond.code yX0_isTaken cX0_isTaken 3 (some .boolean), Cond.fieldLink RX0 21 "HallSights$Hall" "taken" "[I", Cond.methodLink RX4 62 yX4_saveState, Cond.instanceMethod yX4_saveState]
def wsX4_leave_r2 : List Cond := [Cond.selects RX4 yX4_saveState yX4_saveState, Cond.code yX4_saveState cX4_saveState 1 none, Cond.fieldLink RX4 27 "HallSights" "history" "LHallSights$History;", Cond.fieldLink RX4 10 "HallSights" "survey" "LHallSights$Survey;", Cond.methodLink RX4 260 yX1_keep, Cond.instanceMethod yX1_keep, Cond.selects RX1 yX1_keep yX1_keep, Cond.initialized RX1, Cond.code yX1_keep cX1_keep 2 none, Cond.fieldLink RX1 18 "HallSights$History" "size" "I", Cond.fieldLink RX1 11 "HallSights$History" "kept" "[LHallSights$Hall;", Cond.methodLink RX1 22 yX1_dropOldest, Cond.instanceMethod yX1_dropOldest, Cond.selects RX1 yX1_dropOldest yX1_dropOldest, Cond.code yX1_dropOldest cX1_dropOldest 3 none, Cond.methodLink RX1 25 yX0_copyFrom, Cond.instanceMethod yX0_copyFrom, Cond.selects RX0 yX0_copyFrom yX0_copyFrom, Cond.code yX0_copyFrom cX0_copyFrom 2 none, Cond.fieldLink RX0 36 "HallSights$Hall" "rows" "I", Cond.fieldLink RX0 9 "HallSights$Hall" "distances" "[I", Cond.methodLink RX0 40 arraycopyName, Cond.native arraycopyName, Cond.static arraycopyName]
def wsX4_leave_r3 : List Cond := [Cond.initialized "java/lang/System", Cond.fieldLink RX0 15 "HallSights$Hall" "heights" "[I", Cond.fieldLink RX0 18 "HallSights$Hall" "seats" "[I", Cond.fieldLink RX0 46 "HallSights$Hall" "columns" "I", Cond.fieldLink RX0 24 "HallSights$Hall" "columnDistances" "[I", Cond.fieldLink RX0 27 "HallSights$Hall" "columnSides" "[I", Cond.fieldLink RX0 30 "HallSights$Hall" "columnHalves" "[I", Cond.fieldLink RX0 33 "HallSights$Hall" "settings" "[I", Cond.methodLink RX4 203 yX3_forget, Cond.instanceMethod yX3_forget, Cond.selects RX3 yX3_forget yX3_forget, Cond.initialized RX3, Cond.code yX3_forget cX3_forget 1 none, Cond.fieldLink RX3 28 "HallSights$Survey" "looked" "Z", Cond.methodLink RX4 136 yX0_vacate, Cond.instanceMethod yX0_vacate, Cond.selects RX0 yX0_vacate yX0_vacate, Cond.code yX0_vacate cX0_vacate 3 none, Cond.methodLink RX0 53 yX0_bitsOf, Cond.static yX0_bitsOf, Cond.code yX0_bitsOf cX0_bitsOf 2 (some .int), Cond.methodLink RX4 139 yX0_takenInAll, Cond.instanceMethod yX0_takenInAll, Cond.selects RX0 yX0_takenInAll yX0_takenInAll]
def wsX4_leave_r4 : List Cond := [Cond.code yX0_takenInAll cX0_takenInAll 3 (some .int), Cond.methodLink RX0 63 yX0_takenInRow, Cond.instanceMethod yX0_takenInRow, Cond.selects RX0 yX0_takenInRow yX0_takenInRow, Cond.code yX0_takenInRow cX0_takenInRow 2 (some .int), Cond.methodLink RX0 57 yJ6_bitCount_0f7a4, Cond.static yJ6_bitCount_0f7a4, Cond.initialized RJ6, Cond.code yJ6_bitCount_0f7a4 cJ6_bitCount_0f7a4 1 (some .int), Cond.constant RJ6 265 (1431655765), Cond.constant RJ6 266 (858993459), Cond.constant RJ6 267 (252645135)]
def wsX4_leave : List Cond := .code yX4_leave cX4_leave 3 (some .int) :: ((wsX4_leave_r1 ++ (wsX4_leave_r2 ++ (wsX4_leave_r3 ++ wsX4_leave_r4))) ++ wsX40 ++ wsX00 ++ wsX10 ++ wsX30 ++ (vx_atS RX4 61 "java/lang/IllegalStateException" ["java/lang/RuntimeException", "java/lang/Exception"]).filter goodWord ++ (vx_atS RX4 267 "java/lang/IndexOutOfBoundsException" ["java/lang/RuntimeException", "java/lang/Exception"]).filter goodWord)
def wsX4_seatParty_r1 : List Cond := [Cond.classLink RX4 38 "java/lang/IllegalArgumentException", Cond.initialized "java/lang/IllegalArgumentException", Cond.classLink RX4 57 "java/lang/IllegalStateException", Cond.initialized "java/lang/IllegalStateException", Cond.fieldLink RX4 10 "HallSights" "survey" "LHallSights$Survey;", Cond.fieldLink RX4 20 "HallSights" "hall" "LHallSights$Hall;", Cond.methodLink RX4 144 yX3_look, Cond.instanceMethod yX3_look, Cond.selects RX3 yX3_look yX3_look, Cond.initialized RX3, Cond.code yX3_look cX3_look 4 none, Cond.fieldLink RX3 28 "HallSights$Survey" "looked" "Z", Cond.fieldLink RX3 12 "HallSights$Survey" "hall" "LHallSights$Hall;", Cond.fieldLink RX3 32 "HallSights$Hall" "rows" "I", Cond.fieldLink RX3 36 "HallSights$Hall" "seats" "[I", Cond.fieldLink RX3 18 "HallSights$Survey" "people" "[I", Cond.fieldLink RX3 22 "HallSights$Survey" "columns" "[I", Cond.fieldLink RX3 25 "HallSights$Survey" "ranks" "[I", Cond.methodLink RX3 39 yX3_cellOf, Cond.static yX3_cellOf, Cond.code yX3_cellOf cX3_cellOf 2 (some .int), Cond.methodLink RX3 43 yX0_peopleInWay, Cond.instanceMethod yX0_peopleInWay, Cond.selects RX0 yX0_peopleInWay yX0_peopleInWay]
def wsX4_seatParty_r2 : List Cond := [Cond.initialized RX0, Cond.code yX0_peopleInWay cX0_peopleInWay 6 (some .int), Cond.fieldLink RX0 18 "HallSights$Hall" "seats" "[I", Cond.methodLink RX0 66 yX0_isTaken, Cond.instanceMethod yX0_isTaken, Cond.selects RX0 yX0_isTaken yX0_isTaken, Cond.code yX0_isTaken cX0_isTaken 3 (some .boolean), Cond.fieldLink RX0 21 "HallSights$Hall" "taken" "[I", Cond.methodLink RX0 87 yX0_isHeadInWay, Cond.instanceMethod yX0_isHeadInWay, Cond.selects RX0 yX0_isHeadInWay yX0_isHeadInWay, Cond.code yX0_isHeadInWay cX0_isHeadInWay 8 (some .boolean), Cond.fieldLink RX0 9 "HallSights$Hall" "distances" "[I", Cond.methodLink RX0 78 Lib.Math.abs.name, Cond.static Lib.Math.abs.name, Cond.initialized "java/lang/Math", Cond.code Lib.Math.abs.name Lib.Math.abs.code 1 (some .int), Cond.methodLink RX0 75 yX0_sideOf, Cond.instanceMethod yX0_sideOf, Cond.selects RX0 yX0_sideOf yX0_sideOf, Cond.code yX0_sideOf cX0_sideOf 3 (some .int), Cond.methodLink RX0 81 yX0_headOverPoint, Cond.instanceMethod yX0_headOverPoint, Cond.selects RX0 yX0_headOverPoint yX0_headOverPoint]
def wsX4_seatParty_r3 : List Cond := [Cond.code yX0_headOverPoint cX0_headOverPoint 2 (some .int), Cond.fieldLink RX0 15 "HallSights$Hall" "heights" "[I", Cond.fieldLink RX0 33 "HallSights$Hall" "settings" "[I", Cond.methodLink RX0 84 yX0_eyeOverPoint, Cond.instanceMethod yX0_eyeOverPoint, Cond.selects RX0 yX0_eyeOverPoint yX0_eyeOverPoint, Cond.code yX0_eyeOverPoint cX0_eyeOverPoint 2 (some .int), Cond.methodLink RX3 46 yX0_columnsInWay, Cond.instanceMethod yX0_columnsInWay, Cond.selects RX0 yX0_columnsInWay yX0_columnsInWay, Cond.code yX0_columnsInWay cX0_columnsInWay 5 (some .int), Cond.fieldLink RX0 46 "HallSights$Hall" "columns" "I", Cond.methodLink RX0 91 yX0_isColumnInWay, Cond.instanceMethod yX0_isColumnInWay, Cond.selects RX0 yX0_isColumnInWay yX0_isColumnInWay, Cond.code yX0_isColumnInWay cX0_isColumnInWay 7 (some .boolean), Cond.fieldLink RX0 24 "HallSights$Hall" "columnDistances" "[I", Cond.fieldLink RX0 27 "HallSights$Hall" "columnSides" "[I", Cond.fieldLink RX0 30 "HallSights$Hall" "columnHalves" "[I", Cond.methodLink RX3 49 yX3_rankOf, Cond.instanceMethod yX3_rankOf, Cond.selects RX3 yX3_rankOf yX3_rankOf, Cond.code yX3_rankOf cX3_rankOf 4 (some .int), Cond.methodLink RX3 58 Lib.Math.abs.name]
def wsX4_seatParty_r4 : List Cond := [Cond.methodLink RX3 52 yX3_allInWay, Cond.instanceMethod yX3_allInWay, Cond.selects RX3 yX3_allInWay yX3_allInWay, Cond.code yX3_allInWay cX3_allInWay 4 (some .int), Cond.methodLink RX3 55 yX0_sideOf, Cond.methodLink RX4 147 yX3_placeForParty, Cond.instanceMethod yX3_placeForParty, Cond.selects RX3 yX3_placeForParty yX3_placeForParty, Cond.code yX3_placeForParty cX3_placeForParty 7 (some .int), Cond.methodLink RX3 78 yX3_allInWayOfParty, Cond.instanceMethod yX3_allInWayOfParty, Cond.selects RX3 yX3_allInWayOfParty yX3_allInWayOfParty, Cond.code yX3_allInWayOfParty cX3_allInWayOfParty 6 (some .int), Cond.methodLink RX3 82 yX0_areFree, Cond.instanceMethod yX0_areFree, Cond.selects RX0 yX0_areFree yX0_areFree, Cond.code yX0_areFree cX0_areFree 4 (some .boolean), Cond.methodLink RX0 53 yX0_bitsOf, Cond.static yX0_bitsOf, Cond.code yX0_bitsOf cX0_bitsOf 2 (some .int), Cond.methodLink RX4 62 yX4_saveState, Cond.instanceMethod yX4_saveState, Cond.selects RX4 yX4_saveState yX4_saveState, Cond.initialized RX4]
def wsX4_seatParty_r5 : List Cond := [Cond.code yX4_saveState cX4_saveState 1 none, Cond.fieldLink RX4 27 "HallSights" "history" "LHallSights$History;", Cond.methodLink RX4 260 yX1_keep, Cond.instanceMethod yX1_keep, Cond.selects RX1 yX1_keep yX1_keep, Cond.initialized RX1, Cond.code yX1_keep cX1_keep 2 none, Cond.fieldLink RX1 18 "HallSights$History" "size" "I", Cond.fieldLink RX1 11 "HallSights$History" "kept" "[LHallSights$Hall;", Cond.methodLink RX1 22 yX1_dropOldest, Cond.instanceMethod yX1_dropOldest, Cond.selects RX1 yX1_dropOldest yX1_dropOldest, Cond.code yX1_dropOldest cX1_dropOldest 3 none, Cond.methodLink RX1 25 yX0_copyFrom, Cond.instanceMethod yX0_copyFrom, Cond.selects RX0 yX0_copyFrom yX0_copyFrom, Cond.code yX0_copyFrom cX0_copyFrom 2 none, Cond.fieldLink RX0 36 "HallSights$Hall" "rows" "I", Cond.methodLink RX0 40 arraycopyName, Cond.native arraycopyName, Cond.static arraycopyName, Cond.initialized "java/lang/System", Cond.methodLink RX4 203 yX3_forget, Cond.instanceMethod yX3_forget]
def wsX4_seatParty_r6 : List Cond := [Cond.selects RX3 yX3_forget yX3_forget, Cond.code yX3_forget cX3_forget 1 none, Cond.methodLink RX4 126 yX0_occupy, Cond.instanceMethod yX0_occupy, Cond.selects RX0 yX0_occupy yX0_occupy, Cond.code yX0_occupy cX0_occupy 4 none]
def wsX4_seatParty : List Cond := .code yX4_seatParty cX4_seatParty 3 (some .int) :: ((wsX4_seatParty_r1 ++ (wsX4_seatParty_r2 ++ (wsX4_seatParty_r3 ++ (wsX4_seatParty_r4 ++ (wsX4_seatParty_r5 ++ wsX4_seatParty_r6))))) ++ wsX40 ++ wsX30 ++ wsX00 ++ wsX10 ++ (vx_atS RX4 42 "java/lang/IllegalArgumentException" ["java/lang/RuntimeException", "java/lang/Exception"]).filter goodWord ++ (vx_atS RX4 61 "java/lang/IllegalStateException" ["java/lang/RuntimeException", "java/lang/Exception"]).filter goodWord)
def wsX4_clear_r1 : List Cond := [Cond.fieldLink RX4 20 "HallSights" "hall" "LHallSights$Hall;", Cond.methodLink RX4 62 yX4_saveState, Cond.instanceMethod yX4_saveState, Cond.selects RX4 yX4_saveState yX4_saveState, Cond.initialized RX4, Cond.code yX4_saveState cX4_saveState 1 none, Cond.fieldLink RX4 27 "HallSights" "history" "LHallSights$History;", Cond.fieldLink RX4 10 "HallSights" "survey" "LHallSights$Survey;", Cond.methodLink RX4 260 yX1_keep, Cond.instanceMethod yX1_keep, Cond.selects RX1 yX1_keep yX1_keep, Cond.initialized RX1, Cond.code yX1_keep cX1_keep 2 none, Cond.fieldLink RX1 18 "HallSights$History" "size" "I", Cond.fieldLink RX1 11 "HallSights$History" "kept" "[LHallSights$Hall;", Cond.methodLink RX1 22 yX1_dropOldest, Cond.instanceMethod yX1_dropOldest, Cond.selects RX1 yX1_dropOldest yX1_dropOldest, Cond.code yX1_dropOldest cX1_dropOldest 3 none, Cond.methodLink RX1 25 yX0_copyFrom, Cond.instanceMethod yX0_copyFrom, Cond.selects RX0 yX0_copyFrom yX0_copyFrom, Cond.initialized RX0, Cond.code yX0_copyFrom cX0_copyFrom 2 none]
def wsX4_clear_r2 : List Cond := [Cond.fieldLink RX0 36 "HallSights$Hall" "rows" "I", Cond.fieldLink RX0 9 "HallSights$Hall" "distances" "[I", Cond.methodLink RX0 40 arraycopyName, Cond.native arraycopyName, Cond.static arraycopyName, Cond.initialized "java/lang/System", Cond.fieldLink RX0 15 "HallSights$Hall" "heights" "[I", Cond.fieldLink RX0 18 "HallSights$Hall" "seats" "[I", Cond.fieldLink RX0 21 "HallSights$Hall" "taken" "[I", Cond.fieldLink RX0 46 "HallSights$Hall" "columns" "I", Cond.fieldLink RX0 24 "HallSights$Hall" "columnDistances" "[I", Cond.fieldLink RX0 27 "HallSights$Hall" "columnSides" "[I", Cond.fieldLink RX0 30 "HallSights$Hall" "columnHalves" "[I", Cond.fieldLink RX0 33 "HallSights$Hall" "settings" "[I", Cond.methodLink RX4 203 yX3_forget, Cond.instanceMethod yX3_forget, Cond.selects RX3 yX3_forget yX3_forget, Cond.initialized RX3, Cond.code yX3_forget cX3_forget 1 none, Cond.fieldLink RX3 28 "HallSights$Survey" "looked" "Z", Cond.methodLink RX4 139 yX0_takenInAll, Cond.instanceMethod yX0_takenInAll, Cond.selects RX0 yX0_takenInAll yX0_takenInAll, Cond.code yX0_takenInAll cX0_takenInAll 3 (some .int)]
def wsX4_clear_r3 : List Cond := [Cond.methodLink RX0 63 yX0_takenInRow, Cond.instanceMethod yX0_takenInRow, Cond.selects RX0 yX0_takenInRow yX0_takenInRow, Cond.code yX0_takenInRow cX0_takenInRow 2 (some .int), Cond.methodLink RX0 57 yJ6_bitCount_0f7a4, Cond.static yJ6_bitCount_0f7a4, Cond.initialized RJ6, Cond.code yJ6_bitCount_0f7a4 cJ6_bitCount_0f7a4 1 (some .int), Cond.constant RJ6 265 (1431655765), Cond.constant RJ6 266 (858993459), Cond.constant RJ6 267 (252645135), Cond.methodLink RX4 153 yX0_vacateAll, Cond.instanceMethod yX0_vacateAll, Cond.selects RX0 yX0_vacateAll yX0_vacateAll, Cond.code yX0_vacateAll cX0_vacateAll 2 none]
def wsX4_clear : List Cond := .code yX4_clear cX4_clear 2 (some .int) :: ((wsX4_clear_r1 ++ (wsX4_clear_r2 ++ wsX4_clear_r3)) ++ wsX40 ++ wsX10 ++ wsX00 ++ wsX30)
def wsX4_checkWhat : List Cond := .code yX4_checkWhat cX4_checkWhat 2 none :: ([.classLink RX4 38 "java/lang/IllegalArgumentException", .initialized "java/lang/IllegalArgumentException"] ++ (vx_atS RX4 42 "java/lang/IllegalArgumentException" ["java/lang/RuntimeException", "java/lang/Exception"]).filter goodWord)
def wsX4_rowProperty_r1 : List Cond := [Cond.fieldLink RX4 20 "HallSights" "hall" "LHallSights$Hall;", Cond.fieldLink RX4 281 "HallSights$Hall" "distances" "[I", Cond.fieldLink RX4 79 "HallSights$Hall" "heights" "[I", Cond.fieldLink RX4 268 "HallSights$Hall" "seats" "[I", Cond.fieldLink RX4 10 "HallSights" "survey" "LHallSights$Survey;", Cond.methodLink RX4 284 yX0_takenInRow, Cond.instanceMethod yX0_takenInRow, Cond.selects RX0 yX0_takenInRow yX0_takenInRow, Cond.initialized RX0, Cond.code yX0_takenInRow cX0_takenInRow 2 (some .int), Cond.fieldLink RX0 21 "HallSights$Hall" "taken" "[I", Cond.methodLink RX0 57 yJ6_bitCount_0f7a4, Cond.static yJ6_bitCount_0f7a4, Cond.initialized RJ6, Cond.code yJ6_bitCount_0f7a4 cJ6_bitCount_0f7a4 1 (some .int), Cond.constant RJ6 265 (1431655765), Cond.constant RJ6 266 (858993459), Cond.constant RJ6 267 (252645135), Cond.methodLink RX4 287 yX3_seeingInRow, Cond.instanceMethod yX3_seeingInRow, Cond.selects RX3 yX3_seeingInRow yX3_seeingInRow, Cond.initialized RX3, Cond.code yX3_seeingInRow cX3_seeingInRow 4 (some .int), Cond.fieldLink RX3 12 "HallSights$Survey" "hall" "LHallSights$Hall;"]
def wsX4_rowProperty_r2 : List Cond := [Cond.fieldLink RX3 36 "HallSights$Hall" "seats" "[I", Cond.methodLink RX3 64 yX3_sees, Cond.instanceMethod yX3_sees, Cond.selects RX3 yX3_sees yX3_sees, Cond.code yX3_sees cX3_sees 3 (some .boolean), Cond.methodLink RX3 52 yX3_allInWay, Cond.instanceMethod yX3_allInWay, Cond.selects RX3 yX3_allInWay yX3_allInWay, Cond.code yX3_allInWay cX3_allInWay 4 (some .int), Cond.fieldLink RX3 18 "HallSights$Survey" "people" "[I", Cond.fieldLink RX3 22 "HallSights$Survey" "columns" "[I", Cond.methodLink RX3 39 yX3_cellOf, Cond.static yX3_cellOf, Cond.code yX3_cellOf cX3_cellOf 2 (some .int)]
def wsX4_rowProperty : List Cond := .code yX4_rowProperty cX4_rowProperty 3 (some .int) :: ((wsX4_rowProperty_r1 ++ wsX4_rowProperty_r2) ++ wsX40 ++ wsX00 ++ wsX30)
def wsX4_row_r1 : List Cond := [Cond.fieldLink RX4 10 "HallSights" "survey" "LHallSights$Survey;", Cond.methodLink RX4 69 yX4_checkRow, Cond.instanceMethod yX4_checkRow, Cond.selects RX4 yX4_checkRow yX4_checkRow, Cond.initialized RX4, Cond.code yX4_checkRow cX4_checkRow 2 none, Cond.classLink RX4 263 "java/lang/IndexOutOfBoundsException", Cond.initialized "java/lang/IndexOutOfBoundsException", Cond.fieldLink RX4 20 "HallSights" "hall" "LHallSights$Hall;", Cond.fieldLink RX4 156 "HallSights$Hall" "rows" "I", Cond.methodLink RX4 206 yX4_checkWhat, Cond.static yX4_checkWhat, Cond.code yX4_checkWhat cX4_checkWhat 2 none, Cond.classLink RX4 38 "java/lang/IllegalArgumentException", Cond.initialized "java/lang/IllegalArgumentException", Cond.methodLink RX4 144 yX3_look, Cond.instanceMethod yX3_look, Cond.selects RX3 yX3_look yX3_look, Cond.initialized RX3, Cond.code yX3_look cX3_look 4 none, Cond.fieldLink RX3 28 "HallSights$Survey" "looked" "Z", Cond.fieldLink RX3 12 "HallSights$Survey" "hall" "LHallSights$Hall;", Cond.fieldLink RX3 32 "HallSights$Hall" "rows" "I", Cond.fieldLink RX3 36 "HallSights$Hall" "seats" "[I"]
def wsX4_row_r2 : List Cond := [Cond.fieldLink RX3 18 "HallSights$Survey" "people" "[I", Cond.fieldLink RX3 22 "HallSights$Survey" "columns" "[I", Cond.fieldLink RX3 25 "HallSights$Survey" "ranks" "[I", Cond.methodLink RX3 39 yX3_cellOf, Cond.static yX3_cellOf, Cond.code yX3_cellOf cX3_cellOf 2 (some .int), Cond.methodLink RX3 43 yX0_peopleInWay, Cond.instanceMethod yX0_peopleInWay, Cond.selects RX0 yX0_peopleInWay yX0_peopleInWay, Cond.initialized RX0, Cond.code yX0_peopleInWay cX0_peopleInWay 6 (some .int), Cond.fieldLink RX0 18 "HallSights$Hall" "seats" "[I", Cond.methodLink RX0 66 yX0_isTaken, Cond.instanceMethod yX0_isTaken, Cond.selects RX0 yX0_isTaken yX0_isTaken, Cond.code yX0_isTaken cX0_isTaken 3 (some .boolean), Cond.fieldLink RX0 21 "HallSights$Hall" "taken" "[I", Cond.methodLink RX0 87 yX0_isHeadInWay, Cond.instanceMethod yX0_isHeadInWay, Cond.selects RX0 yX0_isHeadInWay yX0_isHeadInWay, Cond.code yX0_isHeadInWay cX0_isHeadInWay 8 (some .boolean), Cond.fieldLink RX0 9 "HallSights$Hall" "distances" "[I", Cond.methodLink RX0 78 Lib.Math.abs.name, Cond.static Lib.Math.abs.name]
def wsX4_row_r3 : List Cond := [Cond.initialized "java/lang/Math", Cond.code Lib.Math.abs.name Lib.Math.abs.code 1 (some .int), Cond.methodLink RX0 75 yX0_sideOf, Cond.instanceMethod yX0_sideOf, Cond.selects RX0 yX0_sideOf yX0_sideOf, Cond.code yX0_sideOf cX0_sideOf 3 (some .int), Cond.methodLink RX0 81 yX0_headOverPoint, Cond.instanceMethod yX0_headOverPoint, Cond.selects RX0 yX0_headOverPoint yX0_headOverPoint, Cond.code yX0_headOverPoint cX0_headOverPoint 2 (some .int), Cond.fieldLink RX0 15 "HallSights$Hall" "heights" "[I", Cond.fieldLink RX0 33 "HallSights$Hall" "settings" "[I", Cond.methodLink RX0 84 yX0_eyeOverPoint, Cond.instanceMethod yX0_eyeOverPoint, Cond.selects RX0 yX0_eyeOverPoint yX0_eyeOverPoint, Cond.code yX0_eyeOverPoint cX0_eyeOverPoint 2 (some .int), Cond.methodLink RX3 46 yX0_columnsInWay, Cond.instanceMethod yX0_columnsInWay, Cond.selects RX0 yX0_columnsInWay yX0_columnsInWay, Cond.code yX0_columnsInWay cX0_columnsInWay 5 (some .int), Cond.fieldLink RX0 46 "HallSights$Hall" "columns" "I", Cond.methodLink RX0 91 yX0_isColumnInWay, Cond.instanceMethod yX0_isColumnInWay, Cond.selects RX0 yX0_isColumnInWay yX0_isColumnInWay]
def wsX4_row_r4 : List Cond := [Cond.code yX0_isColumnInWay cX0_isColumnInWay 7 (some .boolean), Cond.fieldLink RX0 24 "HallSights$Hall" "columnDistances" "[I", Cond.fieldLink RX0 27 "HallSights$Hall" "columnSides" "[I", Cond.fieldLink RX0 30 "HallSights$Hall" "columnHalves" "[I", Cond.methodLink RX3 49 yX3_rankOf, Cond.instanceMethod yX3_rankOf, Cond.selects RX3 yX3_rankOf yX3_rankOf, Cond.code yX3_rankOf cX3_rankOf 4 (some .int), Cond.methodLink RX3 58 Lib.Math.abs.name, Cond.methodLink RX3 52 yX3_allInWay, Cond.instanceMethod yX3_allInWay, Cond.selects RX3 yX3_allInWay yX3_allInWay, Cond.code yX3_allInWay cX3_allInWay 4 (some .int), Cond.methodLink RX3 55 yX0_sideOf, Cond.methodLink RX4 209 yX4_rowProperty, Cond.instanceMethod yX4_rowProperty, Cond.selects RX4 yX4_rowProperty yX4_rowProperty, Cond.code yX4_rowProperty cX4_rowProperty 3 (some .int), Cond.fieldLink RX4 281 "HallSights$Hall" "distances" "[I", Cond.fieldLink RX4 79 "HallSights$Hall" "heights" "[I", Cond.fieldLink RX4 268 "HallSights$Hall" "seats" "[I", Cond.methodLink RX4 284 yX0_takenInRow, Cond.instanceMethod yX0_takenInRow, Cond.selects RX0 yX0_takenInRow yX0_takenInRow]
def wsX4_row_r5 : List Cond := [Cond.code yX0_takenInRow cX0_takenInRow 2 (some .int), Cond.methodLink RX0 57 yJ6_bitCount_0f7a4, Cond.static yJ6_bitCount_0f7a4, Cond.initialized RJ6, Cond.code yJ6_bitCount_0f7a4 cJ6_bitCount_0f7a4 1 (some .int), Cond.constant RJ6 265 (1431655765), Cond.constant RJ6 266 (858993459), Cond.constant RJ6 267 (252645135), Cond.methodLink RX4 287 yX3_seeingInRow, Cond.instanceMethod yX3_seeingInRow, Cond.selects RX3 yX3_seeingInRow yX3_seeingInRow, Cond.code yX3_seeingInRow cX3_seeingInRow 4 (some .int), Cond.methodLink RX3 64 yX3_sees, Cond.instanceMethod yX3_sees, Cond.selects RX3 yX3_sees yX3_sees, Cond.code yX3_sees cX3_sees 3 (some .boolean)]
def wsX4_row : List Cond := .code yX4_row cX4_row 3 (some .int) :: ((wsX4_row_r1 ++ (wsX4_row_r2 ++ (wsX4_row_r3 ++ (wsX4_row_r4 ++ wsX4_row_r5)))) ++ wsX40 ++ wsX00 ++ wsX30 ++ (vx_atS RX4 267 "java/lang/IndexOutOfBoundsException" ["java/lang/RuntimeException", "java/lang/Exception"]).filter goodWord ++ (vx_atS RX4 42 "java/lang/IllegalArgumentException" ["java/lang/RuntimeException", "java/lang/Exception"]).filter goodWord)
def wsX4_seatProperty_r1 : List Cond := [Cond.fieldLink RX4 20 "HallSights" "hall" "LHallSights$Hall;", Cond.fieldLink RX4 10 "HallSights" "survey" "LHallSights$Survey;", Cond.fieldLink RX4 293 "HallSights$Survey" "people" "[I", Cond.fieldLink RX4 299 "HallSights$Survey" "columns" "[I", Cond.methodLink RX4 290 yX0_sideOf, Cond.instanceMethod yX0_sideOf, Cond.selects RX0 yX0_sideOf yX0_sideOf, Cond.initialized RX0, Cond.code yX0_sideOf cX0_sideOf 3 (some .int), Cond.fieldLink RX0 18 "HallSights$Hall" "seats" "[I", Cond.methodLink RX4 120 yX0_isTaken, Cond.instanceMethod yX0_isTaken, Cond.selects RX0 yX0_isTaken yX0_isTaken, Cond.code yX0_isTaken cX0_isTaken 3 (some .boolean), Cond.fieldLink RX0 21 "HallSights$Hall" "taken" "[I", Cond.methodLink RX4 296 yX3_cellOf, Cond.static yX3_cellOf, Cond.initialized RX3, Cond.code yX3_cellOf cX3_cellOf 2 (some .int), Cond.methodLink RX4 301 yX3_sees, Cond.instanceMethod yX3_sees, Cond.selects RX3 yX3_sees yX3_sees, Cond.code yX3_sees cX3_sees 3 (some .boolean), Cond.methodLink RX3 52 yX3_allInWay]
def wsX4_seatProperty_r2 : List Cond := [Cond.instanceMethod yX3_allInWay, Cond.selects RX3 yX3_allInWay yX3_allInWay, Cond.code yX3_allInWay cX3_allInWay 4 (some .int), Cond.fieldLink RX3 18 "HallSights$Survey" "people" "[I", Cond.fieldLink RX3 22 "HallSights$Survey" "columns" "[I", Cond.methodLink RX3 39 yX3_cellOf, Cond.methodLink RX4 304 yX0_takenBehind, Cond.instanceMethod yX0_takenBehind, Cond.selects RX0 yX0_takenBehind yX0_takenBehind, Cond.code yX0_takenBehind cX0_takenBehind 6 (some .int), Cond.fieldLink RX0 36 "HallSights$Hall" "rows" "I", Cond.methodLink RX0 66 yX0_isTaken, Cond.methodLink RX0 87 yX0_isHeadInWay, Cond.instanceMethod yX0_isHeadInWay, Cond.selects RX0 yX0_isHeadInWay yX0_isHeadInWay, Cond.code yX0_isHeadInWay cX0_isHeadInWay 8 (some .boolean), Cond.fieldLink RX0 9 "HallSights$Hall" "distances" "[I", Cond.methodLink RX0 78 Lib.Math.abs.name, Cond.static Lib.Math.abs.name, Cond.initialized "java/lang/Math", Cond.code Lib.Math.abs.name Lib.Math.abs.code 1 (some .int), Cond.methodLink RX0 75 yX0_sideOf, Cond.methodLink RX0 81 yX0_headOverPoint, Cond.instanceMethod yX0_headOverPoint]
def wsX4_seatProperty_r3 : List Cond := [Cond.selects RX0 yX0_headOverPoint yX0_headOverPoint, Cond.code yX0_headOverPoint cX0_headOverPoint 2 (some .int), Cond.fieldLink RX0 15 "HallSights$Hall" "heights" "[I", Cond.fieldLink RX0 33 "HallSights$Hall" "settings" "[I", Cond.methodLink RX0 84 yX0_eyeOverPoint, Cond.instanceMethod yX0_eyeOverPoint, Cond.selects RX0 yX0_eyeOverPoint yX0_eyeOverPoint, Cond.code yX0_eyeOverPoint cX0_eyeOverPoint 2 (some .int), Cond.methodLink RX4 307 yX3_placeOf, Cond.instanceMethod yX3_placeOf, Cond.selects RX3 yX3_placeOf yX3_placeOf, Cond.code yX3_placeOf cX3_placeOf 9 (some .int), Cond.fieldLink RX3 25 "HallSights$Survey" "ranks" "[I", Cond.fieldLink RX3 12 "HallSights$Survey" "hall" "LHallSights$Hall;", Cond.fieldLink RX3 32 "HallSights$Hall" "rows" "I", Cond.fieldLink RX3 36 "HallSights$Hall" "seats" "[I", Cond.methodLink RX3 71 yX0_isTaken]
def wsX4_seatProperty : List Cond := .code yX4_seatProperty cX4_seatProperty 4 (some .int) :: ((wsX4_seatProperty_r1 ++ (wsX4_seatProperty_r2 ++ wsX4_seatProperty_r3)) ++ wsX40 ++ wsX30 ++ wsX00)
def wsX4_seat_r1 : List Cond := [Cond.fieldLink RX4 10 "HallSights" "survey" "LHallSights$Survey;", Cond.methodLink RX4 116 yX4_checkSeat, Cond.instanceMethod yX4_checkSeat, Cond.selects RX4 yX4_checkSeat yX4_checkSeat, Cond.initialized RX4, Cond.code yX4_checkSeat cX4_checkSeat 3 none, Cond.classLink RX4 263 "java/lang/IndexOutOfBoundsException", Cond.initialized "java/lang/IndexOutOfBoundsException", Cond.fieldLink RX4 20 "HallSights" "hall" "LHallSights$Hall;", Cond.fieldLink RX4 268 "HallSights$Hall" "seats" "[I", Cond.methodLink RX4 69 yX4_checkRow, Cond.instanceMethod yX4_checkRow, Cond.selects RX4 yX4_checkRow yX4_checkRow, Cond.code yX4_checkRow cX4_checkRow 2 none, Cond.fieldLink RX4 156 "HallSights$Hall" "rows" "I", Cond.methodLink RX4 206 yX4_checkWhat, Cond.static yX4_checkWhat, Cond.code yX4_checkWhat cX4_checkWhat 2 none, Cond.classLink RX4 38 "java/lang/IllegalArgumentException", Cond.initialized "java/lang/IllegalArgumentException", Cond.methodLink RX4 144 yX3_look, Cond.instanceMethod yX3_look, Cond.selects RX3 yX3_look yX3_look, Cond.initialized RX3]
def wsX4_seat_r2 : List Cond := [Cond.code yX3_look cX3_look 4 none, Cond.fieldLink RX3 28 "HallSights$Survey" "looked" "Z", Cond.fieldLink RX3 12 "HallSights$Survey" "hall" "LHallSights$Hall;", Cond.fieldLink RX3 32 "HallSights$Hall" "rows" "I", Cond.fieldLink RX3 36 "HallSights$Hall" "seats" "[I", Cond.fieldLink RX3 18 "HallSights$Survey" "people" "[I", Cond.fieldLink RX3 22 "HallSights$Survey" "columns" "[I", Cond.fieldLink RX3 25 "HallSights$Survey" "ranks" "[I", Cond.methodLink RX3 39 yX3_cellOf, Cond.static yX3_cellOf, Cond.code yX3_cellOf cX3_cellOf 2 (some .int), Cond.methodLink RX3 43 yX0_peopleInWay, Cond.instanceMethod yX0_peopleInWay, Cond.selects RX0 yX0_peopleInWay yX0_peopleInWay, Cond.initialized RX0, Cond.code yX0_peopleInWay cX0_peopleInWay 6 (some .int), Cond.fieldLink RX0 18 "HallSights$Hall" "seats" "[I", Cond.methodLink RX0 66 yX0_isTaken, Cond.instanceMethod yX0_isTaken, Cond.selects RX0 yX0_isTaken yX0_isTaken, Cond.code yX0_isTaken cX0_isTaken 3 (some .boolean), Cond.fieldLink RX0 21 "HallSights$Hall" "taken" "[I", Cond.methodLink RX0 87 yX0_isHeadInWay, Cond.instanceMethod yX0_isHeadInWay]
def wsX4_seat_r3 : List Cond := [Cond.selects RX0 yX0_isHeadInWay yX0_isHeadInWay, Cond.code yX0_isHeadInWay cX0_isHeadInWay 8 (some .boolean), Cond.fieldLink RX0 9 "HallSights$Hall" "distances" "[I", Cond.methodLink RX0 78 Lib.Math.abs.name, Cond.static Lib.Math.abs.name, Cond.initialized "java/lang/Math", Cond.code Lib.Math.abs.name Lib.Math.abs.code 1 (some .int), Cond.methodLink RX0 75 yX0_sideOf, Cond.instanceMethod yX0_sideOf, Cond.selects RX0 yX0_sideOf yX0_sideOf, Cond.code yX0_sideOf cX0_sideOf 3 (some .int), Cond.methodLink RX0 81 yX0_headOverPoint, Cond.instanceMethod yX0_headOverPoint, Cond.selects RX0 yX0_headOverPoint yX0_headOverPoint, Cond.code yX0_headOverPoint cX0_headOverPoint 2 (some .int), Cond.fieldLink RX0 15 "HallSights$Hall" "heights" "[I", Cond.fieldLink RX0 33 "HallSights$Hall" "settings" "[I", Cond.methodLink RX0 84 yX0_eyeOverPoint, Cond.instanceMethod yX0_eyeOverPoint, Cond.selects RX0 yX0_eyeOverPoint yX0_eyeOverPoint, Cond.code yX0_eyeOverPoint cX0_eyeOverPoint 2 (some .int), Cond.methodLink RX3 46 yX0_columnsInWay, Cond.instanceMethod yX0_columnsInWay, Cond.selects RX0 yX0_columnsInWay yX0_columnsInWay]
def wsX4_seat_r4 : List Cond := [Cond.code yX0_columnsInWay cX0_columnsInWay 5 (some .int), Cond.fieldLink RX0 46 "HallSights$Hall" "columns" "I", Cond.methodLink RX0 91 yX0_isColumnInWay, Cond.instanceMethod yX0_isColumnInWay, Cond.selects RX0 yX0_isColumnInWay yX0_isColumnInWay, Cond.code yX0_isColumnInWay cX0_isColumnInWay 7 (some .boolean), Cond.fieldLink RX0 24 "HallSights$Hall" "columnDistances" "[I", Cond.fieldLink RX0 27 "HallSights$Hall" "columnSides" "[I", Cond.fieldLink RX0 30 "HallSights$Hall" "columnHalves" "[I", Cond.methodLink RX3 49 yX3_rankOf, Cond.instanceMethod yX3_rankOf, Cond.selects RX3 yX3_rankOf yX3_rankOf, Cond.code yX3_rankOf cX3_rankOf 4 (some .int), Cond.methodLink RX3 58 Lib.Math.abs.name, Cond.methodLink RX3 52 yX3_allInWay, Cond.instanceMethod yX3_allInWay, Cond.selects RX3 yX3_allInWay yX3_allInWay, Cond.code yX3_allInWay cX3_allInWay 4 (some .int), Cond.methodLink RX3 55 yX0_sideOf, Cond.methodLink RX4 212 yX4_seatProperty, Cond.instanceMethod yX4_seatProperty, Cond.selects RX4 yX4_seatProperty yX4_seatProperty, Cond.code yX4_seatProperty cX4_seatProperty 4 (some .int), Cond.fieldLink RX4 293 "HallSights$Survey" "people" "[I"]
def wsX4_seat_r5 : List Cond := [Cond.fieldLink RX4 299 "HallSights$Survey" "columns" "[I", Cond.methodLink RX4 290 yX0_sideOf, Cond.methodLink RX4 120 yX0_isTaken, Cond.methodLink RX4 296 yX3_cellOf, Cond.methodLink RX4 301 yX3_sees, Cond.instanceMethod yX3_sees, Cond.selects RX3 yX3_sees yX3_sees, Cond.code yX3_sees cX3_sees 3 (some .boolean), Cond.methodLink RX4 304 yX0_takenBehind, Cond.instanceMethod yX0_takenBehind, Cond.selects RX0 yX0_takenBehind yX0_takenBehind, Cond.code yX0_takenBehind cX0_takenBehind 6 (some .int), Cond.fieldLink RX0 36 "HallSights$Hall" "rows" "I", Cond.methodLink RX4 307 yX3_placeOf, Cond.instanceMethod yX3_placeOf, Cond.selects RX3 yX3_placeOf yX3_placeOf, Cond.code yX3_placeOf cX3_placeOf 9 (some .int), Cond.methodLink RX3 71 yX0_isTaken]
def wsX4_seat : List Cond := .code yX4_seat cX4_seat 4 (some .int) :: ((wsX4_seat_r1 ++ (wsX4_seat_r2 ++ (wsX4_seat_r3 ++ (wsX4_seat_r4 ++ wsX4_seat_r5)))) ++ wsX40 ++ wsX00 ++ wsX30 ++ (vx_atS RX4 267 "java/lang/IndexOutOfBoundsException" ["java/lang/RuntimeException", "java/lang/Exception"]).filter goodWord ++ (vx_atS RX4 42 "java/lang/IllegalArgumentException" ["java/lang/RuntimeException", "java/lang/Exception"]).filter goodWord)
def wsX4_columnProperty_r1 : List Cond := [Cond.fieldLink RX4 20 "HallSights" "hall" "LHallSights$Hall;", Cond.fieldLink RX4 311 "HallSights$Hall" "columnDistances" "[I", Cond.fieldLink RX4 314 "HallSights$Hall" "columnSides" "[I", Cond.fieldLink RX4 317 "HallSights$Hall" "columnHalves" "[I", Cond.methodLink RX4 320 yX0_seatsBehindColumn, Cond.instanceMethod yX0_seatsBehindColumn, Cond.selects RX0 yX0_seatsBehindColumn yX0_seatsBehindColumn, Cond.initialized RX0, Cond.code yX0_seatsBehindColumn cX0_seatsBehindColumn 5 (some .int), Cond.fieldLink RX0 36 "HallSights$Hall" "rows" "I", Cond.fieldLink RX0 18 "HallSights$Hall" "seats" "[I", Cond.methodLink RX0 91 yX0_isColumnInWay, Cond.instanceMethod yX0_isColumnInWay, Cond.selects RX0 yX0_isColumnInWay yX0_isColumnInWay, Cond.code yX0_isColumnInWay cX0_isColumnInWay 7 (some .boolean), Cond.fieldLink RX0 9 "HallSights$Hall" "distances" "[I", Cond.fieldLink RX0 24 "HallSights$Hall" "columnDistances" "[I", Cond.fieldLink RX0 27 "HallSights$Hall" "columnSides" "[I", Cond.methodLink RX0 78 Lib.Math.abs.name, Cond.static Lib.Math.abs.name, Cond.initialized "java/lang/Math", Cond.code Lib.Math.abs.name Lib.Math.abs.code 1 (some .int), Cond.fieldLink RX0 30 "HallSights$Hall" "columnHalves" "[I", Cond.methodLink RX0 75 yX0_sideOf]
def wsX4_columnProperty_r2 : List Cond := [Cond.instanceMethod yX0_sideOf, Cond.selects RX0 yX0_sideOf yX0_sideOf, Cond.code yX0_sideOf cX0_sideOf 3 (some .int)]
def wsX4_columnProperty : List Cond := .code yX4_columnProperty cX4_columnProperty 3 (some .int) :: ((wsX4_columnProperty_r1 ++ wsX4_columnProperty_r2) ++ wsX40 ++ wsX00)
def wsX4_column_r1 : List Cond := [Cond.methodLink RX4 96 yX4_checkColumn, Cond.instanceMethod yX4_checkColumn, Cond.selects RX4 yX4_checkColumn yX4_checkColumn, Cond.initialized RX4, Cond.code yX4_checkColumn cX4_checkColumn 2 none, Cond.classLink RX4 263 "java/lang/IndexOutOfBoundsException", Cond.initialized "java/lang/IndexOutOfBoundsException", Cond.fieldLink RX4 20 "HallSights" "hall" "LHallSights$Hall;", Cond.fieldLink RX4 87 "HallSights$Hall" "columns" "I", Cond.methodLink RX4 206 yX4_checkWhat, Cond.static yX4_checkWhat, Cond.code yX4_checkWhat cX4_checkWhat 2 none, Cond.classLink RX4 38 "java/lang/IllegalArgumentException", Cond.initialized "java/lang/IllegalArgumentException", Cond.methodLink RX4 215 yX4_columnProperty, Cond.instanceMethod yX4_columnProperty, Cond.selects RX4 yX4_columnProperty yX4_columnProperty, Cond.code yX4_columnProperty cX4_columnProperty 3 (some .int), Cond.fieldLink RX4 311 "HallSights$Hall" "columnDistances" "[I", Cond.fieldLink RX4 314 "HallSights$Hall" "columnSides" "[I", Cond.fieldLink RX4 317 "HallSights$Hall" "columnHalves" "[I", Cond.methodLink RX4 320 yX0_seatsBehindColumn, Cond.instanceMethod yX0_seatsBehindColumn, Cond.selects RX0 yX0_seatsBehindColumn yX0_seatsBehindColumn]
def wsX4_column_r2 : List Cond := [Cond.initialized RX0, Cond.code yX0_seatsBehindColumn cX0_seatsBehindColumn 5 (some .int), Cond.fieldLink RX0 36 "HallSights$Hall" "rows" "I", Cond.fieldLink RX0 18 "HallSights$Hall" "seats" "[I", Cond.methodLink RX0 91 yX0_isColumnInWay, Cond.instanceMethod yX0_isColumnInWay, Cond.selects RX0 yX0_isColumnInWay yX0_isColumnInWay, Cond.code yX0_isColumnInWay cX0_isColumnInWay 7 (some .boolean), Cond.fieldLink RX0 9 "HallSights$Hall" "distances" "[I", Cond.fieldLink RX0 24 "HallSights$Hall" "columnDistances" "[I", Cond.fieldLink RX0 27 "HallSights$Hall" "columnSides" "[I", Cond.methodLink RX0 78 Lib.Math.abs.name, Cond.static Lib.Math.abs.name, Cond.initialized "java/lang/Math", Cond.code Lib.Math.abs.name Lib.Math.abs.code 1 (some .int), Cond.fieldLink RX0 30 "HallSights$Hall" "columnHalves" "[I", Cond.methodLink RX0 75 yX0_sideOf, Cond.instanceMethod yX0_sideOf, Cond.selects RX0 yX0_sideOf yX0_sideOf, Cond.code yX0_sideOf cX0_sideOf 3 (some .int)]
def wsX4_column : List Cond := .code yX4_column cX4_column 3 (some .int) :: ((wsX4_column_r1 ++ wsX4_column_r2) ++ wsX40 ++ wsX00 ++ (vx_atS RX4 267 "java/lang/IndexOutOfBoundsException" ["java/lang/RuntimeException", "java/lang/Exception"]).filter goodWord ++ (vx_atS RX4 42 "java/lang/IllegalArgumentException" ["java/lang/RuntimeException", "java/lang/Exception"]).filter goodWord)
def wsX4_numberOf_r1 : List Cond := [Cond.fieldLink RX4 20 "HallSights" "hall" "LHallSights$Hall;", Cond.fieldLink RX4 156 "HallSights$Hall" "rows" "I", Cond.fieldLink RX4 87 "HallSights$Hall" "columns" "I", Cond.fieldLink RX4 10 "HallSights" "survey" "LHallSights$Survey;", Cond.fieldLink RX4 27 "HallSights" "history" "LHallSights$History;", Cond.fieldLink RX4 194 "HallSights$History" "size" "I", Cond.methodLink RX4 75 yX0_seatsInAll, Cond.instanceMethod yX0_seatsInAll, Cond.selects RX0 yX0_seatsInAll yX0_seatsInAll, Cond.initialized RX0, Cond.code yX0_seatsInAll cX0_seatsInAll 3 (some .int), Cond.fieldLink RX0 36 "HallSights$Hall" "rows" "I", Cond.fieldLink RX0 18 "HallSights$Hall" "seats" "[I", Cond.methodLink RX4 139 yX0_takenInAll, Cond.instanceMethod yX0_takenInAll, Cond.selects RX0 yX0_takenInAll yX0_takenInAll, Cond.code yX0_takenInAll cX0_takenInAll 3 (some .int), Cond.methodLink RX0 63 yX0_takenInRow, Cond.instanceMethod yX0_takenInRow, Cond.selects RX0 yX0_takenInRow yX0_takenInRow, Cond.code yX0_takenInRow cX0_takenInRow 2 (some .int), Cond.fieldLink RX0 21 "HallSights$Hall" "taken" "[I", Cond.methodLink RX0 57 yJ6_bitCount_0f7a4, Cond.static yJ6_bitCount_0f7a4]
def wsX4_numberOf_r2 : List Cond := [Cond.initialized RJ6, Cond.code yJ6_bitCount_0f7a4 cJ6_bitCount_0f7a4 1 (some .int), Cond.constant RJ6 265 (1431655765), Cond.constant RJ6 266 (858993459), Cond.constant RJ6 267 (252645135), Cond.methodLink RX4 323 yX3_seeing, Cond.instanceMethod yX3_seeing, Cond.selects RX3 yX3_seeing yX3_seeing, Cond.initialized RX3, Cond.code yX3_seeing cX3_seeing 3 (some .int), Cond.fieldLink RX3 12 "HallSights$Survey" "hall" "LHallSights$Hall;", Cond.fieldLink RX3 32 "HallSights$Hall" "rows" "I", Cond.methodLink RX3 68 yX3_seeingInRow, Cond.instanceMethod yX3_seeingInRow, Cond.selects RX3 yX3_seeingInRow yX3_seeingInRow, Cond.code yX3_seeingInRow cX3_seeingInRow 4 (some .int), Cond.fieldLink RX3 36 "HallSights$Hall" "seats" "[I", Cond.methodLink RX3 64 yX3_sees, Cond.instanceMethod yX3_sees, Cond.selects RX3 yX3_sees yX3_sees, Cond.code yX3_sees cX3_sees 3 (some .boolean), Cond.methodLink RX3 52 yX3_allInWay, Cond.instanceMethod yX3_allInWay, Cond.selects RX3 yX3_allInWay yX3_allInWay]
def wsX4_numberOf_r3 : List Cond := [Cond.code yX3_allInWay cX3_allInWay 4 (some .int), Cond.fieldLink RX3 18 "HallSights$Survey" "people" "[I", Cond.fieldLink RX3 22 "HallSights$Survey" "columns" "[I", Cond.methodLink RX3 39 yX3_cellOf, Cond.static yX3_cellOf, Cond.code yX3_cellOf cX3_cellOf 2 (some .int), Cond.methodLink RX4 326 yX3_takenSeeing, Cond.instanceMethod yX3_takenSeeing, Cond.selects RX3 yX3_takenSeeing yX3_takenSeeing, Cond.code yX3_takenSeeing cX3_takenSeeing 4 (some .int), Cond.methodLink RX3 71 yX0_isTaken, Cond.instanceMethod yX0_isTaken, Cond.selects RX0 yX0_isTaken yX0_isTaken, Cond.code yX0_isTaken cX0_isTaken 3 (some .boolean), Cond.methodLink RX4 329 yX3_pairsInWay, Cond.instanceMethod yX3_pairsInWay, Cond.selects RX3 yX3_pairsInWay yX3_pairsInWay, Cond.code yX3_pairsInWay cX3_pairsInWay 4 (some .int), Cond.methodLink RX4 332 yX0_longestFree, Cond.instanceMethod yX0_longestFree, Cond.selects RX0 yX0_longestFree yX0_longestFree, Cond.code yX0_longestFree cX0_longestFree 5 (some .int), Cond.methodLink RX0 70 Lib.Math.max.name, Cond.static Lib.Math.max.name]
def wsX4_numberOf_r4 : List Cond := [Cond.initialized "java/lang/Math", Cond.code Lib.Math.max.name Lib.Math.max.code 2 (some .int), Cond.methodLink RX0 66 yX0_isTaken]
def wsX4_numberOf : List Cond := .code yX4_numberOf cX4_numberOf 2 (some .int) :: ((wsX4_numberOf_r1 ++ (wsX4_numberOf_r2 ++ (wsX4_numberOf_r3 ++ wsX4_numberOf_r4))) ++ wsX40 ++ wsX00 ++ wsX10 ++ wsX30)
def wsX4_count_r1 : List Cond := [Cond.fieldLink RX4 10 "HallSights" "survey" "LHallSights$Survey;", Cond.methodLink RX4 206 yX4_checkWhat, Cond.static yX4_checkWhat, Cond.initialized RX4, Cond.code yX4_checkWhat cX4_checkWhat 2 none, Cond.classLink RX4 38 "java/lang/IllegalArgumentException", Cond.initialized "java/lang/IllegalArgumentException", Cond.methodLink RX4 144 yX3_look, Cond.instanceMethod yX3_look, Cond.selects RX3 yX3_look yX3_look, Cond.initialized RX3, Cond.code yX3_look cX3_look 4 none, Cond.fieldLink RX3 28 "HallSights$Survey" "looked" "Z", Cond.fieldLink RX3 12 "HallSights$Survey" "hall" "LHallSights$Hall;", Cond.fieldLink RX3 32 "HallSights$Hall" "rows" "I", Cond.fieldLink RX3 36 "HallSights$Hall" "seats" "[I", Cond.fieldLink RX3 18 "HallSights$Survey" "people" "[I", Cond.fieldLink RX3 22 "HallSights$Survey" "columns" "[I", Cond.fieldLink RX3 25 "HallSights$Survey" "ranks" "[I", Cond.methodLink RX3 39 yX3_cellOf, Cond.static yX3_cellOf, Cond.code yX3_cellOf cX3_cellOf 2 (some .int), Cond.methodLink RX3 43 yX0_peopleInWay, Cond.instanceMethod yX0_peopleInWay]
def wsX4_count_r2 : List Cond := [Cond.selects RX0 yX0_peopleInWay yX0_peopleInWay, Cond.initialized RX0, Cond.code yX0_peopleInWay cX0_peopleInWay 6 (some .int), Cond.fieldLink RX0 18 "HallSights$Hall" "seats" "[I", Cond.methodLink RX0 66 yX0_isTaken, Cond.instanceMethod yX0_isTaken, Cond.selects RX0 yX0_isTaken yX0_isTaken, Cond.code yX0_isTaken cX0_isTaken 3 (some .boolean), Cond.fieldLink RX0 21 "HallSights$Hall" "taken" "[I", Cond.methodLink RX0 87 yX0_isHeadInWay, Cond.instanceMethod yX0_isHeadInWay, Cond.selects RX0 yX0_isHeadInWay yX0_isHeadInWay, Cond.code yX0_isHeadInWay cX0_isHeadInWay 8 (some .boolean), Cond.fieldLink RX0 9 "HallSights$Hall" "distances" "[I", Cond.methodLink RX0 78 Lib.Math.abs.name, Cond.static Lib.Math.abs.name, Cond.initialized "java/lang/Math", Cond.code Lib.Math.abs.name Lib.Math.abs.code 1 (some .int), Cond.methodLink RX0 75 yX0_sideOf, Cond.instanceMethod yX0_sideOf, Cond.selects RX0 yX0_sideOf yX0_sideOf, Cond.code yX0_sideOf cX0_sideOf 3 (some .int), Cond.methodLink RX0 81 yX0_headOverPoint, Cond.instanceMethod yX0_headOverPoint]
def wsX4_count_r3 : List Cond := [Cond.selects RX0 yX0_headOverPoint yX0_headOverPoint, Cond.code yX0_headOverPoint cX0_headOverPoint 2 (some .int), Cond.fieldLink RX0 15 "HallSights$Hall" "heights" "[I", Cond.fieldLink RX0 33 "HallSights$Hall" "settings" "[I", Cond.methodLink RX0 84 yX0_eyeOverPoint, Cond.instanceMethod yX0_eyeOverPoint, Cond.selects RX0 yX0_eyeOverPoint yX0_eyeOverPoint, Cond.code yX0_eyeOverPoint cX0_eyeOverPoint 2 (some .int), Cond.methodLink RX3 46 yX0_columnsInWay, Cond.instanceMethod yX0_columnsInWay, Cond.selects RX0 yX0_columnsInWay yX0_columnsInWay, Cond.code yX0_columnsInWay cX0_columnsInWay 5 (some .int), Cond.fieldLink RX0 46 "HallSights$Hall" "columns" "I", Cond.methodLink RX0 91 yX0_isColumnInWay, Cond.instanceMethod yX0_isColumnInWay, Cond.selects RX0 yX0_isColumnInWay yX0_isColumnInWay, Cond.code yX0_isColumnInWay cX0_isColumnInWay 7 (some .boolean), Cond.fieldLink RX0 24 "HallSights$Hall" "columnDistances" "[I", Cond.fieldLink RX0 27 "HallSights$Hall" "columnSides" "[I", Cond.fieldLink RX0 30 "HallSights$Hall" "columnHalves" "[I", Cond.methodLink RX3 49 yX3_rankOf, Cond.instanceMethod yX3_rankOf, Cond.selects RX3 yX3_rankOf yX3_rankOf, Cond.code yX3_rankOf cX3_rankOf 4 (some .int)]
def wsX4_count_r4 : List Cond := [Cond.methodLink RX3 58 Lib.Math.abs.name, Cond.methodLink RX3 52 yX3_allInWay, Cond.instanceMethod yX3_allInWay, Cond.selects RX3 yX3_allInWay yX3_allInWay, Cond.code yX3_allInWay cX3_allInWay 4 (some .int), Cond.methodLink RX3 55 yX0_sideOf, Cond.methodLink RX4 226 yX4_numberOf, Cond.instanceMethod yX4_numberOf, Cond.selects RX4 yX4_numberOf yX4_numberOf, Cond.code yX4_numberOf cX4_numberOf 2 (some .int), Cond.fieldLink RX4 20 "HallSights" "hall" "LHallSights$Hall;", Cond.fieldLink RX4 156 "HallSights$Hall" "rows" "I", Cond.fieldLink RX4 87 "HallSights$Hall" "columns" "I", Cond.fieldLink RX4 27 "HallSights" "history" "LHallSights$History;", Cond.fieldLink RX4 194 "HallSights$History" "size" "I", Cond.methodLink RX4 75 yX0_seatsInAll, Cond.instanceMethod yX0_seatsInAll, Cond.selects RX0 yX0_seatsInAll yX0_seatsInAll, Cond.code yX0_seatsInAll cX0_seatsInAll 3 (some .int), Cond.fieldLink RX0 36 "HallSights$Hall" "rows" "I", Cond.methodLink RX4 139 yX0_takenInAll, Cond.instanceMethod yX0_takenInAll, Cond.selects RX0 yX0_takenInAll yX0_takenInAll, Cond.code yX0_takenInAll cX0_takenInAll 3 (some .int)]
def wsX4_count_r5 : List Cond := [Cond.methodLink RX0 63 yX0_takenInRow, Cond.instanceMethod yX0_takenInRow, Cond.selects RX0 yX0_takenInRow yX0_takenInRow, Cond.code yX0_takenInRow cX0_takenInRow 2 (some .int), Cond.methodLink RX0 57 yJ6_bitCount_0f7a4, Cond.static yJ6_bitCount_0f7a4, Cond.initialized RJ6, Cond.code yJ6_bitCount_0f7a4 cJ6_bitCount_0f7a4 1 (some .int), Cond.constant RJ6 265 (1431655765), Cond.constant RJ6 266 (858993459), Cond.constant RJ6 267 (252645135), Cond.methodLink RX4 323 yX3_seeing, Cond.instanceMethod yX3_seeing, Cond.selects RX3 yX3_seeing yX3_seeing, Cond.code yX3_seeing cX3_seeing 3 (some .int), Cond.methodLink RX3 68 yX3_seeingInRow, Cond.instanceMethod yX3_seeingInRow, Cond.selects RX3 yX3_seeingInRow yX3_seeingInRow, Cond.code yX3_seeingInRow cX3_seeingInRow 4 (some .int), Cond.methodLink RX3 64 yX3_sees, Cond.instanceMethod yX3_sees, Cond.selects RX3 yX3_sees yX3_sees, Cond.code yX3_sees cX3_sees 3 (some .boolean), Cond.methodLink RX4 326 yX3_takenSeeing]
def wsX4_count_r6 : List Cond := [Cond.instanceMethod yX3_takenSeeing, Cond.selects RX3 yX3_takenSeeing yX3_takenSeeing, Cond.code yX3_takenSeeing cX3_takenSeeing 4 (some .int), Cond.methodLink RX3 71 yX0_isTaken, Cond.methodLink RX4 329 yX3_pairsInWay, Cond.instanceMethod yX3_pairsInWay, Cond.selects RX3 yX3_pairsInWay yX3_pairsInWay, Cond.code yX3_pairsInWay cX3_pairsInWay 4 (some .int), Cond.methodLink RX4 332 yX0_longestFree, Cond.instanceMethod yX0_longestFree, Cond.selects RX0 yX0_longestFree yX0_longestFree, Cond.code yX0_longestFree cX0_longestFree 5 (some .int), Cond.methodLink RX0 70 Lib.Math.max.name, Cond.static Lib.Math.max.name, Cond.code Lib.Math.max.name Lib.Math.max.code 2 (some .int)]
def wsX4_count : List Cond := .code yX4_count cX4_count 2 (some .int) :: ((wsX4_count_r1 ++ (wsX4_count_r2 ++ (wsX4_count_r3 ++ (wsX4_count_r4 ++ (wsX4_count_r5 ++ wsX4_count_r6))))) ++ wsX40 ++ wsX30 ++ wsX00 ++ wsX10 ++ (vx_atS RX4 42 "java/lang/IllegalArgumentException" ["java/lang/RuntimeException", "java/lang/Exception"]).filter goodWord)
def wsJ9_abs_0f7a4 : List Cond := .code yJ9_abs_0f7a4 cJ9_abs_0f7a4 1 (some .int) :: ([])
def wsJ9_max_7cf53 : List Cond := .code yJ9_max_7cf53 cJ9_max_7cf53 2 (some .int) :: ([])
def wsL_cell : List Cond := .code yL_cell cL_cell 2 (some .int) :: ([.constant RL 7 (1804289383)])
def wsL_at : List Cond := .code yL_at cL_at 2 (some .int) :: ([])
def wsL_side : List Cond := .code yL_side cL_side 3 (some .int) :: ([])
def wsL_inWay : List Cond := .code yL_inWay cL_inWay 11 (some .boolean) :: ([.methodLink RL 8 yL_side, .static yL_side, .initialized RL, .code yL_side cL_side 3 (some .int)])
def wsL_people : List Cond := .code yL_people cL_people 7 (some .int) :: ([.methodLink RL 14 yL_inWay, .static yL_inWay, .initialized RL, .code yL_inWay cL_inWay 11 (some .boolean), .methodLink RL 8 yL_side, .static yL_side, .code yL_side cL_side 3 (some .int)])
def wsL_columns : List Cond := .code yL_columns cL_columns 9 (some .int) :: ([.methodLink RL 8 yL_side, .static yL_side, .initialized RL, .code yL_side cL_side 3 (some .int)])
def wsL_all : List Cond := .code yL_all cL_all 6 (some .int) :: ([])
def wsL_builds_r1 : List Cond := [Cond.methodLink RL 18 yL_at, Cond.static yL_at, Cond.initialized RL, Cond.code yL_at cL_at 2 (some .int), Cond.methodLink RL 22 yX4_addRow, Cond.instanceMethod yX4_addRow, Cond.selects RX4 yX4_addRow yX4_addRow, Cond.initialized RX4, Cond.code yX4_addRow cX4_addRow 4 (some .int), Cond.classLink RX4 38 "java/lang/IllegalArgumentException", Cond.initialized "java/lang/IllegalArgumentException", Cond.classLink RX4 57 "java/lang/IllegalStateException", Cond.initialized "java/lang/IllegalStateException", Cond.fieldLink RX4 20 "HallSights" "hall" "LHallSights$Hall;", Cond.methodLink RX4 45 yX4_checkHeight, Cond.static yX4_checkHeight, Cond.code yX4_checkHeight cX4_checkHeight 1 none, Cond.methodLink RX4 51 yX0_hasRoomForRow, Cond.instanceMethod yX0_hasRoomForRow, Cond.selects RX0 yX0_hasRoomForRow yX0_hasRoomForRow, Cond.initialized RX0, Cond.code yX0_hasRoomForRow cX0_hasRoomForRow 3 (some .boolean), Cond.fieldLink RX0 36 "HallSights$Hall" "rows" "I", Cond.fieldLink RX0 9 "HallSights$Hall" "distances" "[I"]
def wsL_builds_r2 : List Cond := [Cond.methodLink RX4 62 yX4_saveState, Cond.instanceMethod yX4_saveState, Cond.selects RX4 yX4_saveState yX4_saveState, Cond.code yX4_saveState cX4_saveState 1 none, Cond.fieldLink RX4 27 "HallSights" "history" "LHallSights$History;", Cond.fieldLink RX4 10 "HallSights" "survey" "LHallSights$Survey;", Cond.methodLink RX4 260 yX1_keep, Cond.instanceMethod yX1_keep, Cond.selects RX1 yX1_keep yX1_keep, Cond.initialized RX1, Cond.code yX1_keep cX1_keep 2 none, Cond.fieldLink RX1 18 "HallSights$History" "size" "I", Cond.fieldLink RX1 11 "HallSights$History" "kept" "[LHallSights$Hall;", Cond.methodLink RX1 22 yX1_dropOldest, Cond.instanceMethod yX1_dropOldest, Cond.selects RX1 yX1_dropOldest yX1_dropOldest, Cond.code yX1_dropOldest cX1_dropOldest 3 none, Cond.methodLink RX1 25 yX0_copyFrom, Cond.instanceMethod yX0_copyFrom, Cond.selects RX0 yX0_copyFrom yX0_copyFrom, Cond.code yX0_copyFrom cX0_copyFrom 2 none, Cond.methodLink RX0 40 arraycopyName, Cond.native arraycopyName, Cond.static arraycopyName]
def wsL_builds_r3 : List Cond := [Cond.initialized "java/lang/System", Cond.fieldLink RX0 15 "HallSights$Hall" "heights" "[I", Cond.fieldLink RX0 18 "HallSights$Hall" "seats" "[I", Cond.fieldLink RX0 21 "HallSights$Hall" "taken" "[I", Cond.fieldLink RX0 46 "HallSights$Hall" "columns" "I", Cond.fieldLink RX0 24 "HallSights$Hall" "columnDistances" "[I", Cond.fieldLink RX0 27 "HallSights$Hall" "columnSides" "[I", Cond.fieldLink RX0 30 "HallSights$Hall" "columnHalves" "[I", Cond.fieldLink RX0 33 "HallSights$Hall" "settings" "[I", Cond.methodLink RX4 203 yX3_forget, Cond.instanceMethod yX3_forget, Cond.selects RX3 yX3_forget yX3_forget, Cond.initialized RX3, Cond.code yX3_forget cX3_forget 1 none, Cond.fieldLink RX3 28 "HallSights$Survey" "looked" "Z", Cond.methodLink RX4 65 yX0_insertRow, Cond.instanceMethod yX0_insertRow, Cond.selects RX0 yX0_insertRow yX0_insertRow, Cond.code yX0_insertRow cX0_insertRow 5 (some .int), Cond.methodLink RX0 49 yX0_moveRow, Cond.instanceMethod yX0_moveRow, Cond.selects RX0 yX0_moveRow yX0_moveRow, Cond.code yX0_moveRow cX0_moveRow 3 none, Cond.methodLink RL 28 yX4_removeRow]
def wsL_builds_r4 : List Cond := [Cond.instanceMethod yX4_removeRow, Cond.selects RX4 yX4_removeRow yX4_removeRow, Cond.code yX4_removeRow cX4_removeRow 2 (some .int), Cond.methodLink RX4 69 yX4_checkRow, Cond.instanceMethod yX4_checkRow, Cond.selects RX4 yX4_checkRow yX4_checkRow, Cond.code yX4_checkRow cX4_checkRow 2 none, Cond.classLink RX4 263 "java/lang/IndexOutOfBoundsException", Cond.initialized "java/lang/IndexOutOfBoundsException", Cond.fieldLink RX4 156 "HallSights$Hall" "rows" "I", Cond.methodLink RX4 72 yX0_deleteRow, Cond.instanceMethod yX0_deleteRow, Cond.selects RX0 yX0_deleteRow yX0_deleteRow, Cond.code yX0_deleteRow cX0_deleteRow 3 none, Cond.methodLink RX4 75 yX0_seatsInAll, Cond.instanceMethod yX0_seatsInAll, Cond.selects RX0 yX0_seatsInAll yX0_seatsInAll, Cond.code yX0_seatsInAll cX0_seatsInAll 3 (some .int), Cond.methodLink RL 32 yL_all, Cond.static yL_all, Cond.code yL_all cL_all 6 (some .int), Cond.methodLink RL 36 yX4_removeColumn, Cond.instanceMethod yX4_removeColumn, Cond.selects RX4 yX4_removeColumn yX4_removeColumn]
def wsL_builds_r5 : List Cond := [Cond.code yX4_removeColumn cX4_removeColumn 2 (some .int), Cond.fieldLink RX4 87 "HallSights$Hall" "columns" "I", Cond.methodLink RX4 96 yX4_checkColumn, Cond.instanceMethod yX4_checkColumn, Cond.selects RX4 yX4_checkColumn yX4_checkColumn, Cond.code yX4_checkColumn cX4_checkColumn 2 none, Cond.methodLink RX4 99 yX0_deleteColumn, Cond.instanceMethod yX0_deleteColumn, Cond.selects RX0 yX0_deleteColumn yX0_deleteColumn, Cond.code yX0_deleteColumn cX0_deleteColumn 3 none, Cond.methodLink RL 39 yX4_addColumn, Cond.instanceMethod yX4_addColumn, Cond.selects RX4 yX4_addColumn yX4_addColumn, Cond.code yX4_addColumn cX4_addColumn 4 (some .int), Cond.methodLink RX4 93 yX0_insertColumn, Cond.instanceMethod yX0_insertColumn, Cond.selects RX0 yX0_insertColumn yX0_insertColumn, Cond.code yX0_insertColumn cX0_insertColumn 4 (some .int), Cond.methodLink RL 42 yX4_lift, Cond.instanceMethod yX4_lift, Cond.selects RX4 yX4_lift yX4_lift, Cond.code yX4_lift cX4_lift 4 (some .int), Cond.fieldLink RX4 79 "HallSights$Hall" "heights" "[I", Cond.methodLink RL 45 yX4_set]
def wsL_builds_r6 : List Cond := [Cond.instanceMethod yX4_set, Cond.selects RX4 yX4_set yX4_set, Cond.code yX4_set cX4_set 4 (some .int), Cond.fieldLink RX4 105 "HallSights" "LEAST_OF_SETTING" "[I", Cond.fieldLink RX4 108 "HallSights" "MOST_OF_SETTING" "[I", Cond.fieldLink RX4 113 "HallSights$Hall" "settings" "[I", Cond.methodLink RX4 102 yX4_checkSetting, Cond.static yX4_checkSetting, Cond.code yX4_checkSetting cX4_checkSetting 1 none]
def wsL_builds : List Cond := .code yL_builds cL_builds 12 (some .boolean) :: ((wsL_builds_r1 ++ (wsL_builds_r2 ++ (wsL_builds_r3 ++ (wsL_builds_r4 ++ (wsL_builds_r5 ++ wsL_builds_r6))))) ++ wsX40 ++ wsX00 ++ wsX10 ++ wsX30 ++ (vx_atS RX4 42 "java/lang/IllegalArgumentException" ["java/lang/RuntimeException", "java/lang/Exception"]).filter goodWord ++ (vx_atS RX4 61 "java/lang/IllegalStateException" ["java/lang/RuntimeException", "java/lang/Exception"]).filter goodWord ++ (vx_atS RX4 267 "java/lang/IndexOutOfBoundsException" ["java/lang/RuntimeException", "java/lang/Exception"]).filter goodWord)
def wsL_sits_r1 : List Cond := [Cond.methodLink RL 18 yL_at, Cond.static yL_at, Cond.initialized RL, Cond.code yL_at cL_at 2 (some .int), Cond.methodLink RL 48 yX4_leave, Cond.instanceMethod yX4_leave, Cond.selects RX4 yX4_leave yX4_leave, Cond.initialized RX4, Cond.code yX4_leave cX4_leave 3 (some .int), Cond.classLink RX4 57 "java/lang/IllegalStateException", Cond.initialized "java/lang/IllegalStateException", Cond.fieldLink RX4 20 "HallSights" "hall" "LHallSights$Hall;", Cond.methodLink RX4 116 yX4_checkSeat, Cond.instanceMethod yX4_checkSeat, Cond.selects RX4 yX4_checkSeat yX4_checkSeat, Cond.code yX4_checkSeat cX4_checkSeat 3 none, Cond.classLink RX4 263 "java/lang/IndexOutOfBoundsException", Cond.initialized "java/lang/IndexOutOfBoundsException", Cond.fieldLink RX4 268 "HallSights$Hall" "seats" "[I", Cond.methodLink RX4 69 yX4_checkRow, Cond.instanceMethod yX4_checkRow, Cond.selects RX4 yX4_checkRow yX4_checkRow, Cond.code yX4_checkRow cX4_checkRow 2 none, Cond.fieldLink RX4 156 "HallSights$Hall" "rows" "I"]
def wsL_sits_r2 : List Cond := [Cond.methodLink RX4 120 yX0_isTaken, Cond.instanceMethod yX0_isTaken, Cond.selects RX0 yX0_isTaken yX0_isTaken, Cond.initialized RX0, Cond.code yX0_isTaken cX0_isTaken 3 (some .boolean), Cond.fieldLink RX0 21 "HallSights$Hall" "taken" "[I", Cond.methodLink RX4 62 yX4_saveState, Cond.instanceMethod yX4_saveState, Cond.selects RX4 yX4_saveState yX4_saveState, Cond.code yX4_saveState cX4_saveState 1 none, Cond.fieldLink RX4 27 "HallSights" "history" "LHallSights$History;", Cond.fieldLink RX4 10 "HallSights" "survey" "LHallSights$Survey;", Cond.methodLink RX4 260 yX1_keep, Cond.instanceMethod yX1_keep, Cond.selects RX1 yX1_keep yX1_keep, Cond.initialized RX1, Cond.code yX1_keep cX1_keep 2 none, Cond.fieldLink RX1 18 "HallSights$History" "size" "I", Cond.fieldLink RX1 11 "HallSights$History" "kept" "[LHallSights$Hall;", Cond.methodLink RX1 22 yX1_dropOldest, Cond.instanceMethod yX1_dropOldest, Cond.selects RX1 yX1_dropOldest yX1_dropOldest, Cond.code yX1_dropOldest cX1_dropOldest 3 none, Cond.methodLink RX1 25 yX0_copyFrom]
def wsL_sits_r3 : List Cond := [Cond.instanceMethod yX0_copyFrom, Cond.selects RX0 yX0_copyFrom yX0_copyFrom, Cond.code yX0_copyFrom cX0_copyFrom 2 none, Cond.fieldLink RX0 36 "HallSights$Hall" "rows" "I", Cond.fieldLink RX0 9 "HallSights$Hall" "distances" "[I", Cond.methodLink RX0 40 arraycopyName, Cond.native arraycopyName, Cond.static arraycopyName, Cond.initialized "java/lang/System", Cond.fieldLink RX0 15 "HallSights$Hall" "heights" "[I", Cond.fieldLink RX0 18 "HallSights$Hall" "seats" "[I", Cond.fieldLink RX0 46 "HallSights$Hall" "columns" "I", Cond.fieldLink RX0 24 "HallSights$Hall" "columnDistances" "[I", Cond.fieldLink RX0 27 "HallSights$Hall" "columnSides" "[I", Cond.fieldLink RX0 30 "HallSights$Hall" "columnHalves" "[I", Cond.fieldLink RX0 33 "HallSights$Hall" "settings" "[I", Cond.methodLink RX4 203 yX3_forget, Cond.instanceMethod yX3_forget, Cond.selects RX3 yX3_forget yX3_forget, Cond.initialized RX3, Cond.code yX3_forget cX3_forget 1 none, Cond.fieldLink RX3 28 "HallSights$Survey" "looked" "Z", Cond.methodLink RX4 136 yX0_vacate, Cond.instanceMethod yX0_vacate]
def wsL_sits_r4 : List Cond := [Cond.selects RX0 yX0_vacate yX0_vacate, Cond.code yX0_vacate cX0_vacate 3 none, Cond.methodLink RX0 53 yX0_bitsOf, Cond.static yX0_bitsOf, Cond.code yX0_bitsOf cX0_bitsOf 2 (some .int), Cond.methodLink RX4 139 yX0_takenInAll, Cond.instanceMethod yX0_takenInAll, Cond.selects RX0 yX0_takenInAll yX0_takenInAll, Cond.code yX0_takenInAll cX0_takenInAll 3 (some .int), Cond.methodLink RX0 63 yX0_takenInRow, Cond.instanceMethod yX0_takenInRow, Cond.selects RX0 yX0_takenInRow yX0_takenInRow, Cond.code yX0_takenInRow cX0_takenInRow 2 (some .int), Cond.methodLink RX0 57 yJ6_bitCount_0f7a4, Cond.static yJ6_bitCount_0f7a4, Cond.initialized RJ6, Cond.code yJ6_bitCount_0f7a4 cJ6_bitCount_0f7a4 1 (some .int), Cond.constant RJ6 265 (1431655765), Cond.constant RJ6 266 (858993459), Cond.constant RJ6 267 (252645135), Cond.methodLink RL 32 yL_all, Cond.static yL_all, Cond.code yL_all cL_all 6 (some .int), Cond.methodLink RL 51 yX4_take]
def wsL_sits_r5 : List Cond := [Cond.instanceMethod yX4_take, Cond.selects RX4 yX4_take yX4_take, Cond.code yX4_take cX4_take 3 (some .int), Cond.methodLink RX4 126 yX0_occupy, Cond.instanceMethod yX0_occupy, Cond.selects RX0 yX0_occupy yX0_occupy, Cond.code yX0_occupy cX0_occupy 4 none, Cond.methodLink RX4 130 yX0_peopleInWay, Cond.instanceMethod yX0_peopleInWay, Cond.selects RX0 yX0_peopleInWay yX0_peopleInWay, Cond.code yX0_peopleInWay cX0_peopleInWay 6 (some .int), Cond.methodLink RX0 66 yX0_isTaken, Cond.methodLink RX0 87 yX0_isHeadInWay, Cond.instanceMethod yX0_isHeadInWay, Cond.selects RX0 yX0_isHeadInWay yX0_isHeadInWay, Cond.code yX0_isHeadInWay cX0_isHeadInWay 8 (some .boolean), Cond.methodLink RX0 78 Lib.Math.abs.name, Cond.static Lib.Math.abs.name, Cond.initialized "java/lang/Math", Cond.code Lib.Math.abs.name Lib.Math.abs.code 1 (some .int), Cond.methodLink RX0 75 yX0_sideOf, Cond.instanceMethod yX0_sideOf, Cond.selects RX0 yX0_sideOf yX0_sideOf, Cond.code yX0_sideOf cX0_sideOf 3 (some .int)]
def wsL_sits_r6 : List Cond := [Cond.methodLink RX0 81 yX0_headOverPoint, Cond.instanceMethod yX0_headOverPoint, Cond.selects RX0 yX0_headOverPoint yX0_headOverPoint, Cond.code yX0_headOverPoint cX0_headOverPoint 2 (some .int), Cond.methodLink RX0 84 yX0_eyeOverPoint, Cond.instanceMethod yX0_eyeOverPoint, Cond.selects RX0 yX0_eyeOverPoint yX0_eyeOverPoint, Cond.code yX0_eyeOverPoint cX0_eyeOverPoint 2 (some .int), Cond.methodLink RL 54 yL_people, Cond.static yL_people, Cond.code yL_people cL_people 7 (some .int), Cond.methodLink RL 14 yL_inWay, Cond.static yL_inWay, Cond.code yL_inWay cL_inWay 11 (some .boolean), Cond.methodLink RL 8 yL_side, Cond.static yL_side, Cond.code yL_side cL_side 3 (some .int), Cond.methodLink RL 58 yX4_clear, Cond.instanceMethod yX4_clear, Cond.selects RX4 yX4_clear yX4_clear, Cond.code yX4_clear cX4_clear 2 (some .int), Cond.methodLink RX4 153 yX0_vacateAll, Cond.instanceMethod yX0_vacateAll, Cond.selects RX0 yX0_vacateAll yX0_vacateAll]
def wsL_sits_r7 : List Cond := [Cond.code yX0_vacateAll cX0_vacateAll 2 none, Cond.methodLink RL 62 yL_columns, Cond.static yL_columns, Cond.code yL_columns cL_columns 9 (some .int), Cond.methodLink RL 66 yX4_count, Cond.instanceMethod yX4_count, Cond.selects RX4 yX4_count yX4_count, Cond.code yX4_count cX4_count 2 (some .int), Cond.methodLink RX4 206 yX4_checkWhat, Cond.static yX4_checkWhat, Cond.code yX4_checkWhat cX4_checkWhat 2 none, Cond.classLink RX4 38 "java/lang/IllegalArgumentException", Cond.initialized "java/lang/IllegalArgumentException", Cond.methodLink RX4 144 yX3_look, Cond.instanceMethod yX3_look, Cond.selects RX3 yX3_look yX3_look, Cond.code yX3_look cX3_look 4 none, Cond.fieldLink RX3 12 "HallSights$Survey" "hall" "LHallSights$Hall;", Cond.fieldLink RX3 32 "HallSights$Hall" "rows" "I", Cond.fieldLink RX3 36 "HallSights$Hall" "seats" "[I", Cond.fieldLink RX3 18 "HallSights$Survey" "people" "[I", Cond.fieldLink RX3 22 "HallSights$Survey" "columns" "[I", Cond.fieldLink RX3 25 "HallSights$Survey" "ranks" "[I", Cond.methodLink RX3 39 yX3_cellOf]
def wsL_sits_r8 : List Cond := [Cond.static yX3_cellOf, Cond.code yX3_cellOf cX3_cellOf 2 (some .int), Cond.methodLink RX3 43 yX0_peopleInWay, Cond.methodLink RX3 46 yX0_columnsInWay, Cond.instanceMethod yX0_columnsInWay, Cond.selects RX0 yX0_columnsInWay yX0_columnsInWay, Cond.code yX0_columnsInWay cX0_columnsInWay 5 (some .int), Cond.methodLink RX0 91 yX0_isColumnInWay, Cond.instanceMethod yX0_isColumnInWay, Cond.selects RX0 yX0_isColumnInWay yX0_isColumnInWay, Cond.code yX0_isColumnInWay cX0_isColumnInWay 7 (some .boolean), Cond.methodLink RX3 49 yX3_rankOf, Cond.instanceMethod yX3_rankOf, Cond.selects RX3 yX3_rankOf yX3_rankOf, Cond.code yX3_rankOf cX3_rankOf 4 (some .int), Cond.methodLink RX3 58 Lib.Math.abs.name, Cond.methodLink RX3 52 yX3_allInWay, Cond.instanceMethod yX3_allInWay, Cond.selects RX3 yX3_allInWay yX3_allInWay, Cond.code yX3_allInWay cX3_allInWay 4 (some .int), Cond.methodLink RX3 55 yX0_sideOf, Cond.methodLink RX4 226 yX4_numberOf, Cond.instanceMethod yX4_numberOf, Cond.selects RX4 yX4_numberOf yX4_numberOf]
def wsL_sits_r9 : List Cond := [Cond.code yX4_numberOf cX4_numberOf 2 (some .int), Cond.fieldLink RX4 87 "HallSights$Hall" "columns" "I", Cond.fieldLink RX4 194 "HallSights$History" "size" "I", Cond.methodLink RX4 75 yX0_seatsInAll, Cond.instanceMethod yX0_seatsInAll, Cond.selects RX0 yX0_seatsInAll yX0_seatsInAll, Cond.code yX0_seatsInAll cX0_seatsInAll 3 (some .int), Cond.methodLink RX4 323 yX3_seeing, Cond.instanceMethod yX3_seeing, Cond.selects RX3 yX3_seeing yX3_seeing, Cond.code yX3_seeing cX3_seeing 3 (some .int), Cond.methodLink RX3 68 yX3_seeingInRow, Cond.instanceMethod yX3_seeingInRow, Cond.selects RX3 yX3_seeingInRow yX3_seeingInRow, Cond.code yX3_seeingInRow cX3_seeingInRow 4 (some .int), Cond.methodLink RX3 64 yX3_sees, Cond.instanceMethod yX3_sees, Cond.selects RX3 yX3_sees yX3_sees, Cond.code yX3_sees cX3_sees 3 (some .boolean), Cond.methodLink RX4 326 yX3_takenSeeing, Cond.instanceMethod yX3_takenSeeing, Cond.selects RX3 yX3_takenSeeing yX3_takenSeeing, Cond.code yX3_takenSeeing cX3_takenSeeing 4 (some .int), Cond.methodLink RX3 71 yX0_isTaken]
def wsL_sits_r10 : List Cond := [Cond.methodLink RX4 329 yX3_pairsInWay, Cond.instanceMethod yX3_pairsInWay, Cond.selects RX3 yX3_pairsInWay yX3_pairsInWay, Cond.code yX3_pairsInWay cX3_pairsInWay 4 (some .int), Cond.methodLink RX4 332 yX0_longestFree, Cond.instanceMethod yX0_longestFree, Cond.selects RX0 yX0_longestFree yX0_longestFree, Cond.code yX0_longestFree cX0_longestFree 5 (some .int), Cond.methodLink RX0 70 Lib.Math.max.name, Cond.static Lib.Math.max.name, Cond.code Lib.Math.max.name Lib.Math.max.code 2 (some .int), Cond.methodLink RL 69 yX4_seatParty, Cond.instanceMethod yX4_seatParty, Cond.selects RX4 yX4_seatParty yX4_seatParty, Cond.code yX4_seatParty cX4_seatParty 3 (some .int), Cond.methodLink RX4 147 yX3_placeForParty, Cond.instanceMethod yX3_placeForParty, Cond.selects RX3 yX3_placeForParty yX3_placeForParty, Cond.code yX3_placeForParty cX3_placeForParty 7 (some .int), Cond.methodLink RX3 78 yX3_allInWayOfParty, Cond.instanceMethod yX3_allInWayOfParty, Cond.selects RX3 yX3_allInWayOfParty yX3_allInWayOfParty, Cond.code yX3_allInWayOfParty cX3_allInWayOfParty 6 (some .int), Cond.methodLink RX3 82 yX0_areFree]
def wsL_sits_r11 : List Cond := [Cond.instanceMethod yX0_areFree, Cond.selects RX0 yX0_areFree yX0_areFree, Cond.code yX0_areFree cX0_areFree 4 (some .boolean)]
def wsL_sits : List Cond := .code yL_sits cL_sits 17 (some .boolean) :: ((wsL_sits_r1 ++ (wsL_sits_r2 ++ (wsL_sits_r3 ++ (wsL_sits_r4 ++ (wsL_sits_r5 ++ (wsL_sits_r6 ++ (wsL_sits_r7 ++ (wsL_sits_r8 ++ (wsL_sits_r9 ++ (wsL_sits_r10 ++ wsL_sits_r11)))))))))) ++ wsX40 ++ wsX00 ++ wsX10 ++ wsX30 ++ (vx_atS RX4 61 "java/lang/IllegalStateException" ["java/lang/RuntimeException", "java/lang/Exception"]).filter goodWord ++ (vx_atS RX4 267 "java/lang/IndexOutOfBoundsException" ["java/lang/RuntimeException", "java/lang/Exception"]).filter goodWord ++ (vx_atS RX4 42 "java/lang/IllegalArgumentException" ["java/lang/RuntimeException", "java/lang/Exception"]).filter goodWord)
def wsL_agree_r1 : List Cond := [Cond.methodLink RL 72 yX4_row, Cond.instanceMethod yX4_row, Cond.selects RX4 yX4_row yX4_row, Cond.initialized RX4, Cond.code yX4_row cX4_row 3 (some .int), Cond.fieldLink RX4 10 "HallSights" "survey" "LHallSights$Survey;", Cond.methodLink RX4 69 yX4_checkRow, Cond.instanceMethod yX4_checkRow, Cond.selects RX4 yX4_checkRow yX4_checkRow, Cond.code yX4_checkRow cX4_checkRow 2 none, Cond.classLink RX4 263 "java/lang/IndexOutOfBoundsException", Cond.initialized "java/lang/IndexOutOfBoundsException", Cond.fieldLink RX4 20 "HallSights" "hall" "LHallSights$Hall;", Cond.fieldLink RX4 156 "HallSights$Hall" "rows" "I", Cond.methodLink RX4 206 yX4_checkWhat, Cond.static yX4_checkWhat, Cond.code yX4_checkWhat cX4_checkWhat 2 none, Cond.classLink RX4 38 "java/lang/IllegalArgumentException", Cond.initialized "java/lang/IllegalArgumentException", Cond.methodLink RX4 144 yX3_look, Cond.instanceMethod yX3_look, Cond.selects RX3 yX3_look yX3_look, Cond.initialized RX3, Cond.code yX3_look cX3_look 4 none]
def wsL_agree_r2 : List Cond := [Cond.fieldLink RX3 28 "HallSights$Survey" "looked" "Z", Cond.fieldLink RX3 12 "HallSights$Survey" "hall" "LHallSights$Hall;", Cond.fieldLink RX3 32 "HallSights$Hall" "rows" "I", Cond.fieldLink RX3 36 "HallSights$Hall" "seats" "[I", Cond.fieldLink RX3 18 "HallSights$Survey" "people" "[I", Cond.fieldLink RX3 22 "HallSights$Survey" "columns" "[I", Cond.fieldLink RX3 25 "HallSights$Survey" "ranks" "[I", Cond.methodLink RX3 39 yX3_cellOf, Cond.static yX3_cellOf, Cond.code yX3_cellOf cX3_cellOf 2 (some .int), Cond.methodLink RX3 43 yX0_peopleInWay, Cond.instanceMethod yX0_peopleInWay, Cond.selects RX0 yX0_peopleInWay yX0_peopleInWay, Cond.initialized RX0, Cond.code yX0_peopleInWay cX0_peopleInWay 6 (some .int), Cond.fieldLink RX0 18 "HallSights$Hall" "seats" "[I", Cond.methodLink RX0 66 yX0_isTaken, Cond.instanceMethod yX0_isTaken, Cond.selects RX0 yX0_isTaken yX0_isTaken, Cond.code yX0_isTaken cX0_isTaken 3 (some .boolean), Cond.fieldLink RX0 21 "HallSights$Hall" "taken" "[I", Cond.methodLink RX0 87 yX0_isHeadInWay, Cond.instanceMethod yX0_isHeadInWay, Cond.selects RX0 yX0_isHeadInWay yX0_isHeadInWay]
def wsL_agree_r3 : List Cond := [Cond.code yX0_isHeadInWay cX0_isHeadInWay 8 (some .boolean), Cond.fieldLink RX0 9 "HallSights$Hall" "distances" "[I", Cond.methodLink RX0 78 Lib.Math.abs.name, Cond.static Lib.Math.abs.name, Cond.initialized "java/lang/Math", Cond.code Lib.Math.abs.name Lib.Math.abs.code 1 (some .int), Cond.methodLink RX0 75 yX0_sideOf, Cond.instanceMethod yX0_sideOf, Cond.selects RX0 yX0_sideOf yX0_sideOf, Cond.code yX0_sideOf cX0_sideOf 3 (some .int), Cond.methodLink RX0 81 yX0_headOverPoint, Cond.instanceMethod yX0_headOverPoint, Cond.selects RX0 yX0_headOverPoint yX0_headOverPoint, Cond.code yX0_headOverPoint cX0_headOverPoint 2 (some .int), Cond.fieldLink RX0 15 "HallSights$Hall" "heights" "[I", Cond.fieldLink RX0 33 "HallSights$Hall" "settings" "[I", Cond.methodLink RX0 84 yX0_eyeOverPoint, Cond.instanceMethod yX0_eyeOverPoint, Cond.selects RX0 yX0_eyeOverPoint yX0_eyeOverPoint, Cond.code yX0_eyeOverPoint cX0_eyeOverPoint 2 (some .int), Cond.methodLink RX3 46 yX0_columnsInWay, Cond.instanceMethod yX0_columnsInWay, Cond.selects RX0 yX0_columnsInWay yX0_columnsInWay, Cond.code yX0_columnsInWay cX0_columnsInWay 5 (some .int)]
def wsL_agree_r4 : List Cond := [Cond.fieldLink RX0 46 "HallSights$Hall" "columns" "I", Cond.methodLink RX0 91 yX0_isColumnInWay, Cond.instanceMethod yX0_isColumnInWay, Cond.selects RX0 yX0_isColumnInWay yX0_isColumnInWay, Cond.code yX0_isColumnInWay cX0_isColumnInWay 7 (some .boolean), Cond.fieldLink RX0 24 "HallSights$Hall" "columnDistances" "[I", Cond.fieldLink RX0 27 "HallSights$Hall" "columnSides" "[I", Cond.fieldLink RX0 30 "HallSights$Hall" "columnHalves" "[I", Cond.methodLink RX3 49 yX3_rankOf, Cond.instanceMethod yX3_rankOf, Cond.selects RX3 yX3_rankOf yX3_rankOf, Cond.code yX3_rankOf cX3_rankOf 4 (some .int), Cond.methodLink RX3 58 Lib.Math.abs.name, Cond.methodLink RX3 52 yX3_allInWay, Cond.instanceMethod yX3_allInWay, Cond.selects RX3 yX3_allInWay yX3_allInWay, Cond.code yX3_allInWay cX3_allInWay 4 (some .int), Cond.methodLink RX3 55 yX0_sideOf, Cond.methodLink RX4 209 yX4_rowProperty, Cond.instanceMethod yX4_rowProperty, Cond.selects RX4 yX4_rowProperty yX4_rowProperty, Cond.code yX4_rowProperty cX4_rowProperty 3 (some .int), Cond.fieldLink RX4 281 "HallSights$Hall" "distances" "[I", Cond.fieldLink RX4 79 "HallSights$Hall" "heights" "[I"]
def wsL_agree_r5 : List Cond := [Cond.fieldLink RX4 268 "HallSights$Hall" "seats" "[I", Cond.methodLink RX4 284 yX0_takenInRow, Cond.instanceMethod yX0_takenInRow, Cond.selects RX0 yX0_takenInRow yX0_takenInRow, Cond.code yX0_takenInRow cX0_takenInRow 2 (some .int), Cond.methodLink RX0 57 yJ6_bitCount_0f7a4, Cond.static yJ6_bitCount_0f7a4, Cond.initialized RJ6, Cond.code yJ6_bitCount_0f7a4 cJ6_bitCount_0f7a4 1 (some .int), Cond.constant RJ6 265 (1431655765), Cond.constant RJ6 266 (858993459), Cond.constant RJ6 267 (252645135), Cond.methodLink RX4 287 yX3_seeingInRow, Cond.instanceMethod yX3_seeingInRow, Cond.selects RX3 yX3_seeingInRow yX3_seeingInRow, Cond.code yX3_seeingInRow cX3_seeingInRow 4 (some .int), Cond.methodLink RX3 64 yX3_sees, Cond.instanceMethod yX3_sees, Cond.selects RX3 yX3_sees yX3_sees, Cond.code yX3_sees cX3_sees 3 (some .boolean), Cond.methodLink RL 54 yL_people, Cond.static yL_people, Cond.initialized RL, Cond.code yL_people cL_people 7 (some .int)]
def wsL_agree_r6 : List Cond := [Cond.methodLink RL 14 yL_inWay, Cond.static yL_inWay, Cond.code yL_inWay cL_inWay 11 (some .boolean), Cond.methodLink RL 8 yL_side, Cond.static yL_side, Cond.code yL_side cL_side 3 (some .int), Cond.methodLink RL 62 yL_columns, Cond.static yL_columns, Cond.code yL_columns cL_columns 9 (some .int), Cond.methodLink RL 75 yX4_seat, Cond.instanceMethod yX4_seat, Cond.selects RX4 yX4_seat yX4_seat, Cond.code yX4_seat cX4_seat 4 (some .int), Cond.methodLink RX4 116 yX4_checkSeat, Cond.instanceMethod yX4_checkSeat, Cond.selects RX4 yX4_checkSeat yX4_checkSeat, Cond.code yX4_checkSeat cX4_checkSeat 3 none, Cond.methodLink RX4 212 yX4_seatProperty, Cond.instanceMethod yX4_seatProperty, Cond.selects RX4 yX4_seatProperty yX4_seatProperty, Cond.code yX4_seatProperty cX4_seatProperty 4 (some .int), Cond.fieldLink RX4 293 "HallSights$Survey" "people" "[I", Cond.fieldLink RX4 299 "HallSights$Survey" "columns" "[I", Cond.methodLink RX4 290 yX0_sideOf]
def wsL_agree_r7 : List Cond := [Cond.methodLink RX4 120 yX0_isTaken, Cond.methodLink RX4 296 yX3_cellOf, Cond.methodLink RX4 301 yX3_sees, Cond.methodLink RX4 304 yX0_takenBehind, Cond.instanceMethod yX0_takenBehind, Cond.selects RX0 yX0_takenBehind yX0_takenBehind, Cond.code yX0_takenBehind cX0_takenBehind 6 (some .int), Cond.fieldLink RX0 36 "HallSights$Hall" "rows" "I", Cond.methodLink RX4 307 yX3_placeOf, Cond.instanceMethod yX3_placeOf, Cond.selects RX3 yX3_placeOf yX3_placeOf, Cond.code yX3_placeOf cX3_placeOf 9 (some .int), Cond.methodLink RX3 71 yX0_isTaken, Cond.methodLink RL 78 yX4_column, Cond.instanceMethod yX4_column, Cond.selects RX4 yX4_column yX4_column, Cond.code yX4_column cX4_column 3 (some .int), Cond.methodLink RX4 96 yX4_checkColumn, Cond.instanceMethod yX4_checkColumn, Cond.selects RX4 yX4_checkColumn yX4_checkColumn, Cond.code yX4_checkColumn cX4_checkColumn 2 none, Cond.fieldLink RX4 87 "HallSights$Hall" "columns" "I", Cond.methodLink RX4 215 yX4_columnProperty, Cond.instanceMethod yX4_columnProperty]
def wsL_agree_r8 : List Cond := [Cond.selects RX4 yX4_columnProperty yX4_columnProperty, Cond.code yX4_columnProperty cX4_columnProperty 3 (some .int), Cond.fieldLink RX4 311 "HallSights$Hall" "columnDistances" "[I", Cond.fieldLink RX4 314 "HallSights$Hall" "columnSides" "[I", Cond.fieldLink RX4 317 "HallSights$Hall" "columnHalves" "[I", Cond.methodLink RX4 320 yX0_seatsBehindColumn, Cond.instanceMethod yX0_seatsBehindColumn, Cond.selects RX0 yX0_seatsBehindColumn yX0_seatsBehindColumn, Cond.code yX0_seatsBehindColumn cX0_seatsBehindColumn 5 (some .int), Cond.methodLink RL 66 yX4_count, Cond.instanceMethod yX4_count, Cond.selects RX4 yX4_count yX4_count, Cond.code yX4_count cX4_count 2 (some .int), Cond.methodLink RX4 226 yX4_numberOf, Cond.instanceMethod yX4_numberOf, Cond.selects RX4 yX4_numberOf yX4_numberOf, Cond.code yX4_numberOf cX4_numberOf 2 (some .int), Cond.fieldLink RX4 27 "HallSights" "history" "LHallSights$History;", Cond.fieldLink RX4 194 "HallSights$History" "size" "I", Cond.methodLink RX4 75 yX0_seatsInAll, Cond.instanceMethod yX0_seatsInAll, Cond.selects RX0 yX0_seatsInAll yX0_seatsInAll, Cond.code yX0_seatsInAll cX0_seatsInAll 3 (some .int), Cond.methodLink RX4 139 yX0_takenInAll]
def wsL_agree_r9 : List Cond := [Cond.instanceMethod yX0_takenInAll, Cond.selects RX0 yX0_takenInAll yX0_takenInAll, Cond.code yX0_takenInAll cX0_takenInAll 3 (some .int), Cond.methodLink RX0 63 yX0_takenInRow, Cond.methodLink RX4 323 yX3_seeing, Cond.instanceMethod yX3_seeing, Cond.selects RX3 yX3_seeing yX3_seeing, Cond.code yX3_seeing cX3_seeing 3 (some .int), Cond.methodLink RX3 68 yX3_seeingInRow, Cond.methodLink RX4 326 yX3_takenSeeing, Cond.instanceMethod yX3_takenSeeing, Cond.selects RX3 yX3_takenSeeing yX3_takenSeeing, Cond.code yX3_takenSeeing cX3_takenSeeing 4 (some .int), Cond.methodLink RX4 329 yX3_pairsInWay, Cond.instanceMethod yX3_pairsInWay, Cond.selects RX3 yX3_pairsInWay yX3_pairsInWay, Cond.code yX3_pairsInWay cX3_pairsInWay 4 (some .int), Cond.methodLink RX4 332 yX0_longestFree, Cond.instanceMethod yX0_longestFree, Cond.selects RX0 yX0_longestFree yX0_longestFree, Cond.code yX0_longestFree cX0_longestFree 5 (some .int), Cond.methodLink RX0 70 Lib.Math.max.name, Cond.static Lib.Math.max.name, Cond.code Lib.Math.max.name Lib.Math.max.code 2 (some .int)]
def wsL_agree_r10 : List Cond := [Cond.methodLink RL 32 yL_all, Cond.static yL_all, Cond.code yL_all cL_all 6 (some .int)]
def wsL_agree : List Cond := .code yL_agree cL_agree 12 (some .boolean) :: ((wsL_agree_r1 ++ (wsL_agree_r2 ++ (wsL_agree_r3 ++ (wsL_agree_r4 ++ (wsL_agree_r5 ++ (wsL_agree_r6 ++ (wsL_agree_r7 ++ (wsL_agree_r8 ++ (wsL_agree_r9 ++ wsL_agree_r10))))))))) ++ wsX40 ++ wsX00 ++ wsX30 ++ wsX10 ++ (vx_atS RX4 267 "java/lang/IndexOutOfBoundsException" ["java/lang/RuntimeException", "java/lang/Exception"]).filter goodWord ++ (vx_atS RX4 42 "java/lang/IllegalArgumentException" ["java/lang/RuntimeException", "java/lang/Exception"]).filter goodWord)
def wsL_law0_r1 : List Cond := [Cond.classLink RL 23 RX4, Cond.instantiable RX4 5, Cond.initialized RX4, Cond.arrayClass .int, Cond.methodLink RL 81 yX4_init, Cond.instanceMethod yX4_init, Cond.code yX4_init cX4_init 1 none, Cond.methodLink RX4 1 objectInit, Cond.instanceMethod objectInit, Cond.code objectInit ⟨#[0xb1]⟩ 1 none, Cond.classLink RX4 7 RX3, Cond.instantiable RX3 5, Cond.initialized RX3, Cond.fieldLink RX4 10 "HallSights" "survey" "LHallSights$Survey;", Cond.fieldLink RX4 16 "HallSights$Survey" "hall" "LHallSights$Hall;", Cond.fieldLink RX4 20 "HallSights" "hall" "LHallSights$Hall;", Cond.fieldLink RX4 21 "HallSights" "trial" "LHallSights$Survey;", Cond.classLink RX4 24 RX1, Cond.instantiable RX1 2, Cond.initialized RX1, Cond.fieldLink RX4 27 "HallSights" "history" "LHallSights$History;", Cond.classLink RX4 31 RX2, Cond.instantiable RX2 5, Cond.initialized RX2]
def wsL_law0_r2 : List Cond := [Cond.fieldLink RX4 34 "HallSights" "text" "LHallSights$RowsText;", Cond.instanceMethod yX3_init, Cond.code yX3_init cX3_init 1 none, Cond.methodLink RX3 3 objectInit, Cond.classLink RX3 9 RX0, Cond.instantiable RX0 10, Cond.initialized RX0, Cond.fieldLink RX3 12 "HallSights$Survey" "hall" "LHallSights$Hall;", Cond.fieldLink RX3 18 "HallSights$Survey" "people" "[I", Cond.fieldLink RX3 22 "HallSights$Survey" "columns" "[I", Cond.fieldLink RX3 25 "HallSights$Survey" "ranks" "[I", Cond.instanceMethod yX0_init, Cond.code yX0_init cX0_init 1 none, Cond.methodLink RX0 3 objectInit, Cond.fieldLink RX0 9 "HallSights$Hall" "distances" "[I", Cond.fieldLink RX0 15 "HallSights$Hall" "heights" "[I", Cond.fieldLink RX0 18 "HallSights$Hall" "seats" "[I", Cond.fieldLink RX0 21 "HallSights$Hall" "taken" "[I", Cond.fieldLink RX0 24 "HallSights$Hall" "columnDistances" "[I", Cond.fieldLink RX0 27 "HallSights$Hall" "columnSides" "[I", Cond.fieldLink RX0 30 "HallSights$Hall" "columnHalves" "[I", Cond.fieldLink RX0 33 "HallSights$Hall" "settings" "[I", Cond.methodLink RX4 26 yX1_init, Cond.instanceMethod yX1_init]
def wsL_law0_r3 : List Cond := [Cond.code yX1_init cX1_init 2 none, Cond.methodLink RX1 3 objectInit, Cond.classLink RX1 9 RX0, Cond.fieldLink RX1 11 "HallSights$History" "kept" "[LHallSights$Hall;", Cond.instanceMethod yX2_init, Cond.code yX2_init cX2_init 1 none, Cond.methodLink RX2 3 objectInit, Cond.arrayClass .char, Cond.fieldLink RX2 9 "HallSights$RowsText" "signs" "[C", Cond.fieldLink RX2 15 "HallSights$RowsText" "numbers" "[I", Cond.methodLink RL 82 yL_cell, Cond.static yL_cell, Cond.initialized RL, Cond.code yL_cell cL_cell 2 (some .int), Cond.constant RL 7 (1804289383), Cond.methodLink RL 18 yL_at, Cond.static yL_at, Cond.code yL_at cL_at 2 (some .int), Cond.methodLink RL 86 yL_builds, Cond.static yL_builds, Cond.code yL_builds cL_builds 12 (some .boolean), Cond.methodLink RL 22 yX4_addRow, Cond.instanceMethod yX4_addRow, Cond.selects RX4 yX4_addRow yX4_addRow]
def wsL_law0_r4 : List Cond := [Cond.code yX4_addRow cX4_addRow 4 (some .int), Cond.classLink RX4 38 "java/lang/IllegalArgumentException", Cond.initialized "java/lang/IllegalArgumentException", Cond.classLink RX4 57 "java/lang/IllegalStateException", Cond.initialized "java/lang/IllegalStateException", Cond.methodLink RX4 45 yX4_checkHeight, Cond.static yX4_checkHeight, Cond.code yX4_checkHeight cX4_checkHeight 1 none, Cond.methodLink RX4 51 yX0_hasRoomForRow, Cond.instanceMethod yX0_hasRoomForRow, Cond.selects RX0 yX0_hasRoomForRow yX0_hasRoomForRow, Cond.code yX0_hasRoomForRow cX0_hasRoomForRow 3 (some .boolean), Cond.fieldLink RX0 36 "HallSights$Hall" "rows" "I", Cond.methodLink RX4 62 yX4_saveState, Cond.instanceMethod yX4_saveState, Cond.selects RX4 yX4_saveState yX4_saveState, Cond.code yX4_saveState cX4_saveState 1 none, Cond.methodLink RX4 260 yX1_keep, Cond.instanceMethod yX1_keep, Cond.selects RX1 yX1_keep yX1_keep, Cond.code yX1_keep cX1_keep 2 none, Cond.fieldLink RX1 18 "HallSights$History" "size" "I", Cond.methodLink RX1 22 yX1_dropOldest, Cond.instanceMethod yX1_dropOldest]
def wsL_law0_r5 : List Cond := [Cond.selects RX1 yX1_dropOldest yX1_dropOldest, Cond.code yX1_dropOldest cX1_dropOldest 3 none, Cond.methodLink RX1 25 yX0_copyFrom, Cond.instanceMethod yX0_copyFrom, Cond.selects RX0 yX0_copyFrom yX0_copyFrom, Cond.code yX0_copyFrom cX0_copyFrom 2 none, Cond.methodLink RX0 40 arraycopyName, Cond.native arraycopyName, Cond.static arraycopyName, Cond.initialized "java/lang/System", Cond.fieldLink RX0 46 "HallSights$Hall" "columns" "I", Cond.methodLink RX4 203 yX3_forget, Cond.instanceMethod yX3_forget, Cond.selects RX3 yX3_forget yX3_forget, Cond.code yX3_forget cX3_forget 1 none, Cond.fieldLink RX3 28 "HallSights$Survey" "looked" "Z", Cond.methodLink RX4 65 yX0_insertRow, Cond.instanceMethod yX0_insertRow, Cond.selects RX0 yX0_insertRow yX0_insertRow, Cond.code yX0_insertRow cX0_insertRow 5 (some .int), Cond.methodLink RX0 49 yX0_moveRow, Cond.instanceMethod yX0_moveRow, Cond.selects RX0 yX0_moveRow yX0_moveRow, Cond.code yX0_moveRow cX0_moveRow 3 none]
def wsL_law0_r6 : List Cond := [Cond.methodLink RL 28 yX4_removeRow, Cond.instanceMethod yX4_removeRow, Cond.selects RX4 yX4_removeRow yX4_removeRow, Cond.code yX4_removeRow cX4_removeRow 2 (some .int), Cond.methodLink RX4 69 yX4_checkRow, Cond.instanceMethod yX4_checkRow, Cond.selects RX4 yX4_checkRow yX4_checkRow, Cond.code yX4_checkRow cX4_checkRow 2 none, Cond.classLink RX4 263 "java/lang/IndexOutOfBoundsException", Cond.initialized "java/lang/IndexOutOfBoundsException", Cond.fieldLink RX4 156 "HallSights$Hall" "rows" "I", Cond.methodLink RX4 72 yX0_deleteRow, Cond.instanceMethod yX0_deleteRow, Cond.selects RX0 yX0_deleteRow yX0_deleteRow, Cond.code yX0_deleteRow cX0_deleteRow 3 none, Cond.methodLink RX4 75 yX0_seatsInAll, Cond.instanceMethod yX0_seatsInAll, Cond.selects RX0 yX0_seatsInAll yX0_seatsInAll, Cond.code yX0_seatsInAll cX0_seatsInAll 3 (some .int), Cond.methodLink RL 32 yL_all, Cond.static yL_all, Cond.code yL_all cL_all 6 (some .int), Cond.methodLink RL 36 yX4_removeColumn, Cond.instanceMethod yX4_removeColumn]
def wsL_law0_r7 : List Cond := [Cond.selects RX4 yX4_removeColumn yX4_removeColumn, Cond.code yX4_removeColumn cX4_removeColumn 2 (some .int), Cond.fieldLink RX4 87 "HallSights$Hall" "columns" "I", Cond.methodLink RX4 96 yX4_checkColumn, Cond.instanceMethod yX4_checkColumn, Cond.selects RX4 yX4_checkColumn yX4_checkColumn, Cond.code yX4_checkColumn cX4_checkColumn 2 none, Cond.methodLink RX4 99 yX0_deleteColumn, Cond.instanceMethod yX0_deleteColumn, Cond.selects RX0 yX0_deleteColumn yX0_deleteColumn, Cond.code yX0_deleteColumn cX0_deleteColumn 3 none, Cond.methodLink RL 39 yX4_addColumn, Cond.instanceMethod yX4_addColumn, Cond.selects RX4 yX4_addColumn yX4_addColumn, Cond.code yX4_addColumn cX4_addColumn 4 (some .int), Cond.methodLink RX4 93 yX0_insertColumn, Cond.instanceMethod yX0_insertColumn, Cond.selects RX0 yX0_insertColumn yX0_insertColumn, Cond.code yX0_insertColumn cX0_insertColumn 4 (some .int), Cond.methodLink RL 42 yX4_lift, Cond.instanceMethod yX4_lift, Cond.selects RX4 yX4_lift yX4_lift, Cond.code yX4_lift cX4_lift 4 (some .int), Cond.fieldLink RX4 79 "HallSights$Hall" "heights" "[I"]
def wsL_law0_r8 : List Cond := [Cond.methodLink RL 45 yX4_set, Cond.instanceMethod yX4_set, Cond.selects RX4 yX4_set yX4_set, Cond.code yX4_set cX4_set 4 (some .int), Cond.fieldLink RX4 105 "HallSights" "LEAST_OF_SETTING" "[I", Cond.fieldLink RX4 108 "HallSights" "MOST_OF_SETTING" "[I", Cond.fieldLink RX4 113 "HallSights$Hall" "settings" "[I", Cond.methodLink RX4 102 yX4_checkSetting, Cond.static yX4_checkSetting, Cond.code yX4_checkSetting cX4_checkSetting 1 none, Cond.methodLink RL 90 yL_sits, Cond.static yL_sits, Cond.code yL_sits cL_sits 17 (some .boolean), Cond.methodLink RL 48 yX4_leave, Cond.instanceMethod yX4_leave, Cond.selects RX4 yX4_leave yX4_leave, Cond.code yX4_leave cX4_leave 3 (some .int), Cond.methodLink RX4 116 yX4_checkSeat, Cond.instanceMethod yX4_checkSeat, Cond.selects RX4 yX4_checkSeat yX4_checkSeat, Cond.code yX4_checkSeat cX4_checkSeat 3 none, Cond.fieldLink RX4 268 "HallSights$Hall" "seats" "[I", Cond.methodLink RX4 120 yX0_isTaken, Cond.instanceMethod yX0_isTaken]
def wsL_law0_r9 : List Cond := [Cond.selects RX0 yX0_isTaken yX0_isTaken, Cond.code yX0_isTaken cX0_isTaken 3 (some .boolean), Cond.methodLink RX4 136 yX0_vacate, Cond.instanceMethod yX0_vacate, Cond.selects RX0 yX0_vacate yX0_vacate, Cond.code yX0_vacate cX0_vacate 3 none, Cond.methodLink RX0 53 yX0_bitsOf, Cond.static yX0_bitsOf, Cond.code yX0_bitsOf cX0_bitsOf 2 (some .int), Cond.methodLink RX4 139 yX0_takenInAll, Cond.instanceMethod yX0_takenInAll, Cond.selects RX0 yX0_takenInAll yX0_takenInAll, Cond.code yX0_takenInAll cX0_takenInAll 3 (some .int), Cond.methodLink RX0 63 yX0_takenInRow, Cond.instanceMethod yX0_takenInRow, Cond.selects RX0 yX0_takenInRow yX0_takenInRow, Cond.code yX0_takenInRow cX0_takenInRow 2 (some .int), Cond.methodLink RX0 57 yJ6_bitCount_0f7a4, Cond.static yJ6_bitCount_0f7a4, Cond.initialized RJ6, Cond.code yJ6_bitCount_0f7a4 cJ6_bitCount_0f7a4 1 (some .int), Cond.constant RJ6 265 (1431655765), Cond.constant RJ6 266 (858993459), Cond.constant RJ6 267 (252645135)]
def wsL_law0_r10 : List Cond := [Cond.methodLink RL 51 yX4_take, Cond.instanceMethod yX4_take, Cond.selects RX4 yX4_take yX4_take, Cond.code yX4_take cX4_take 3 (some .int), Cond.methodLink RX4 126 yX0_occupy, Cond.instanceMethod yX0_occupy, Cond.selects RX0 yX0_occupy yX0_occupy, Cond.code yX0_occupy cX0_occupy 4 none, Cond.methodLink RX4 130 yX0_peopleInWay, Cond.instanceMethod yX0_peopleInWay, Cond.selects RX0 yX0_peopleInWay yX0_peopleInWay, Cond.code yX0_peopleInWay cX0_peopleInWay 6 (some .int), Cond.methodLink RX0 66 yX0_isTaken, Cond.methodLink RX0 87 yX0_isHeadInWay, Cond.instanceMethod yX0_isHeadInWay, Cond.selects RX0 yX0_isHeadInWay yX0_isHeadInWay, Cond.code yX0_isHeadInWay cX0_isHeadInWay 8 (some .boolean), Cond.methodLink RX0 78 Lib.Math.abs.name, Cond.static Lib.Math.abs.name, Cond.initialized "java/lang/Math", Cond.code Lib.Math.abs.name Lib.Math.abs.code 1 (some .int), Cond.methodLink RX0 75 yX0_sideOf, Cond.instanceMethod yX0_sideOf, Cond.selects RX0 yX0_sideOf yX0_sideOf]
def wsL_law0_r11 : List Cond := [Cond.code yX0_sideOf cX0_sideOf 3 (some .int), Cond.methodLink RX0 81 yX0_headOverPoint, Cond.instanceMethod yX0_headOverPoint, Cond.selects RX0 yX0_headOverPoint yX0_headOverPoint, Cond.code yX0_headOverPoint cX0_headOverPoint 2 (some .int), Cond.methodLink RX0 84 yX0_eyeOverPoint, Cond.instanceMethod yX0_eyeOverPoint, Cond.selects RX0 yX0_eyeOverPoint yX0_eyeOverPoint, Cond.code yX0_eyeOverPoint cX0_eyeOverPoint 2 (some .int), Cond.methodLink RL 54 yL_people, Cond.static yL_people, Cond.code yL_people cL_people 7 (some .int), Cond.methodLink RL 14 yL_inWay, Cond.static yL_inWay, Cond.code yL_inWay cL_inWay 11 (some .boolean), Cond.methodLink RL 8 yL_side, Cond.static yL_side, Cond.code yL_side cL_side 3 (some .int), Cond.methodLink RL 58 yX4_clear, Cond.instanceMethod yX4_clear, Cond.selects RX4 yX4_clear yX4_clear, Cond.code yX4_clear cX4_clear 2 (some .int), Cond.methodLink RX4 153 yX0_vacateAll, Cond.instanceMethod yX0_vacateAll]
def wsL_law0_r12 : List Cond := [Cond.selects RX0 yX0_vacateAll yX0_vacateAll, Cond.code yX0_vacateAll cX0_vacateAll 2 none, Cond.methodLink RL 62 yL_columns, Cond.static yL_columns, Cond.code yL_columns cL_columns 9 (some .int), Cond.methodLink RL 66 yX4_count, Cond.instanceMethod yX4_count, Cond.selects RX4 yX4_count yX4_count, Cond.code yX4_count cX4_count 2 (some .int), Cond.methodLink RX4 206 yX4_checkWhat, Cond.static yX4_checkWhat, Cond.code yX4_checkWhat cX4_checkWhat 2 none, Cond.methodLink RX4 144 yX3_look, Cond.instanceMethod yX3_look, Cond.selects RX3 yX3_look yX3_look, Cond.code yX3_look cX3_look 4 none, Cond.fieldLink RX3 32 "HallSights$Hall" "rows" "I", Cond.fieldLink RX3 36 "HallSights$Hall" "seats" "[I", Cond.methodLink RX3 39 yX3_cellOf, Cond.static yX3_cellOf, Cond.code yX3_cellOf cX3_cellOf 2 (some .int), Cond.methodLink RX3 43 yX0_peopleInWay, Cond.methodLink RX3 46 yX0_columnsInWay, Cond.instanceMethod yX0_columnsInWay]
def wsL_law0_r13 : List Cond := [Cond.selects RX0 yX0_columnsInWay yX0_columnsInWay, Cond.code yX0_columnsInWay cX0_columnsInWay 5 (some .int), Cond.methodLink RX0 91 yX0_isColumnInWay, Cond.instanceMethod yX0_isColumnInWay, Cond.selects RX0 yX0_isColumnInWay yX0_isColumnInWay, Cond.code yX0_isColumnInWay cX0_isColumnInWay 7 (some .boolean), Cond.methodLink RX3 49 yX3_rankOf, Cond.instanceMethod yX3_rankOf, Cond.selects RX3 yX3_rankOf yX3_rankOf, Cond.code yX3_rankOf cX3_rankOf 4 (some .int), Cond.methodLink RX3 58 Lib.Math.abs.name, Cond.methodLink RX3 52 yX3_allInWay, Cond.instanceMethod yX3_allInWay, Cond.selects RX3 yX3_allInWay yX3_allInWay, Cond.code yX3_allInWay cX3_allInWay 4 (some .int), Cond.methodLink RX3 55 yX0_sideOf, Cond.methodLink RX4 226 yX4_numberOf, Cond.instanceMethod yX4_numberOf, Cond.selects RX4 yX4_numberOf yX4_numberOf, Cond.code yX4_numberOf cX4_numberOf 2 (some .int), Cond.fieldLink RX4 194 "HallSights$History" "size" "I", Cond.methodLink RX4 323 yX3_seeing, Cond.instanceMethod yX3_seeing, Cond.selects RX3 yX3_seeing yX3_seeing]
def wsL_law0_r14 : List Cond := [Cond.code yX3_seeing cX3_seeing 3 (some .int), Cond.methodLink RX3 68 yX3_seeingInRow, Cond.instanceMethod yX3_seeingInRow, Cond.selects RX3 yX3_seeingInRow yX3_seeingInRow, Cond.code yX3_seeingInRow cX3_seeingInRow 4 (some .int), Cond.methodLink RX3 64 yX3_sees, Cond.instanceMethod yX3_sees, Cond.selects RX3 yX3_sees yX3_sees, Cond.code yX3_sees cX3_sees 3 (some .boolean), Cond.methodLink RX4 326 yX3_takenSeeing, Cond.instanceMethod yX3_takenSeeing, Cond.selects RX3 yX3_takenSeeing yX3_takenSeeing, Cond.code yX3_takenSeeing cX3_takenSeeing 4 (some .int), Cond.methodLink RX3 71 yX0_isTaken, Cond.methodLink RX4 329 yX3_pairsInWay, Cond.instanceMethod yX3_pairsInWay, Cond.selects RX3 yX3_pairsInWay yX3_pairsInWay, Cond.code yX3_pairsInWay cX3_pairsInWay 4 (some .int), Cond.methodLink RX4 332 yX0_longestFree, Cond.instanceMethod yX0_longestFree, Cond.selects RX0 yX0_longestFree yX0_longestFree, Cond.code yX0_longestFree cX0_longestFree 5 (some .int), Cond.methodLink RX0 70 Lib.Math.max.name, Cond.static Lib.Math.max.name]
def wsL_law0_r15 : List Cond := [Cond.code Lib.Math.max.name Lib.Math.max.code 2 (some .int), Cond.methodLink RL 69 yX4_seatParty, Cond.instanceMethod yX4_seatParty, Cond.selects RX4 yX4_seatParty yX4_seatParty, Cond.code yX4_seatParty cX4_seatParty 3 (some .int), Cond.methodLink RX4 147 yX3_placeForParty, Cond.instanceMethod yX3_placeForParty, Cond.selects RX3 yX3_placeForParty yX3_placeForParty, Cond.code yX3_placeForParty cX3_placeForParty 7 (some .int), Cond.methodLink RX3 78 yX3_allInWayOfParty, Cond.instanceMethod yX3_allInWayOfParty, Cond.selects RX3 yX3_allInWayOfParty yX3_allInWayOfParty, Cond.code yX3_allInWayOfParty cX3_allInWayOfParty 6 (some .int), Cond.methodLink RX3 82 yX0_areFree, Cond.instanceMethod yX0_areFree, Cond.selects RX0 yX0_areFree yX0_areFree, Cond.code yX0_areFree cX0_areFree 4 (some .boolean), Cond.methodLink RL 93 yL_agree, Cond.static yL_agree, Cond.code yL_agree cL_agree 12 (some .boolean), Cond.methodLink RL 72 yX4_row, Cond.instanceMethod yX4_row, Cond.selects RX4 yX4_row yX4_row, Cond.code yX4_row cX4_row 3 (some .int)]
def wsL_law0_r16 : List Cond := [Cond.methodLink RX4 209 yX4_rowProperty, Cond.instanceMethod yX4_rowProperty, Cond.selects RX4 yX4_rowProperty yX4_rowProperty, Cond.code yX4_rowProperty cX4_rowProperty 3 (some .int), Cond.fieldLink RX4 281 "HallSights$Hall" "distances" "[I", Cond.methodLink RX4 284 yX0_takenInRow, Cond.methodLink RX4 287 yX3_seeingInRow, Cond.methodLink RL 75 yX4_seat, Cond.instanceMethod yX4_seat, Cond.selects RX4 yX4_seat yX4_seat, Cond.code yX4_seat cX4_seat 4 (some .int), Cond.methodLink RX4 212 yX4_seatProperty, Cond.instanceMethod yX4_seatProperty, Cond.selects RX4 yX4_seatProperty yX4_seatProperty, Cond.code yX4_seatProperty cX4_seatProperty 4 (some .int), Cond.fieldLink RX4 293 "HallSights$Survey" "people" "[I", Cond.fieldLink RX4 299 "HallSights$Survey" "columns" "[I", Cond.methodLink RX4 290 yX0_sideOf, Cond.methodLink RX4 296 yX3_cellOf, Cond.methodLink RX4 301 yX3_sees, Cond.methodLink RX4 304 yX0_takenBehind, Cond.instanceMethod yX0_takenBehind, Cond.selects RX0 yX0_takenBehind yX0_takenBehind, Cond.code yX0_takenBehind cX0_takenBehind 6 (some .int)]
def wsL_law0_r17 : List Cond := [Cond.methodLink RX4 307 yX3_placeOf, Cond.instanceMethod yX3_placeOf, Cond.selects RX3 yX3_placeOf yX3_placeOf, Cond.code yX3_placeOf cX3_placeOf 9 (some .int), Cond.methodLink RL 78 yX4_column, Cond.instanceMethod yX4_column, Cond.selects RX4 yX4_column yX4_column, Cond.code yX4_column cX4_column 3 (some .int), Cond.methodLink RX4 215 yX4_columnProperty, Cond.instanceMethod yX4_columnProperty, Cond.selects RX4 yX4_columnProperty yX4_columnProperty, Cond.code yX4_columnProperty cX4_columnProperty 3 (some .int), Cond.fieldLink RX4 311 "HallSights$Hall" "columnDistances" "[I", Cond.fieldLink RX4 314 "HallSights$Hall" "columnSides" "[I", Cond.fieldLink RX4 317 "HallSights$Hall" "columnHalves" "[I", Cond.methodLink RX4 320 yX0_seatsBehindColumn, Cond.instanceMethod yX0_seatsBehindColumn, Cond.selects RX0 yX0_seatsBehindColumn yX0_seatsBehindColumn, Cond.code yX0_seatsBehindColumn cX0_seatsBehindColumn 5 (some .int)]
def wsL_law0 : List Cond := (wsL_law0_r1 ++ (wsL_law0_r2 ++ (wsL_law0_r3 ++ (wsL_law0_r4 ++ (wsL_law0_r5 ++ (wsL_law0_r6 ++ (wsL_law0_r7 ++ (wsL_law0_r8 ++ (wsL_law0_r9 ++ (wsL_law0_r10 ++ (wsL_law0_r11 ++ (wsL_law0_r12 ++ (wsL_law0_r13 ++ (wsL_law0_r14 ++ (wsL_law0_r15 ++ (wsL_law0_r16 ++ wsL_law0_r17)))))))))))))))) ++ wsX40 ++ wsX30 ++ wsX10 ++ wsX20 ++ wsX00 ++ ([] : List Cond)
def wsL_law : List Cond := wsL_law0 ++ (vx_atS RX4 42 "java/lang/IllegalArgumentException" ["java/lang/RuntimeException", "java/lang/Exception"]).filter goodWord ++ (vx_atS RX4 61 "java/lang/IllegalStateException" ["java/lang/RuntimeException", "java/lang/Exception"]).filter goodWord ++ (vx_atS RX4 267 "java/lang/IndexOutOfBoundsException" ["java/lang/RuntimeException", "java/lang/Exception"]).filter goodWord
end
section
set_option maxRecDepth 20000 in
theorem wsL_in_r1 : ∀ w ∈ wsL_law0_r1, w ∈ lw_tbl := fun w h => (goodIn_r wsL_law0_r1 [31, 32, 17, 93, 33, 34, 35, 36, 37, 38, 39, 40, 18, 150, 95, 151, 152, 113, 114, 20, 153, 130, 131, 21] (by decide +kernel) (by decide +kernel) w h).1
set_option maxRecDepth 20000 in
theorem wsL_in_r2 : ∀ w ∈ wsL_law0_r2, w ∈ lw_tbl := fun w h => (goodIn_r wsL_law0_r2 [154, 42, 43, 44, 45, 46, 19, 94, 97, 99, 101, 48, 49, 50, 54, 56, 58, 61, 64, 66, 68, 70, 115, 116] (by decide +kernel) (by decide +kernel) w h).1
set_option maxRecDepth 20000 in
theorem wsL_in_r3_0 : (Cond.code yX1_init cX1_init 2 none) ∈ lw_tbl := List.mem_of_getElem? (i := 117) (by decide +kernel)
set_option maxRecDepth 20000 in
theorem wsL_in_r3_1 : (Cond.methodLink RX1 3 objectInit) ∈ lw_tbl := List.mem_of_getElem? (i := 118) (by decide +kernel)
set_option maxRecDepth 20000 in
theorem wsL_in_r3_2 : (Cond.classLink RX1 9 RX0) ∈ lw_tbl := List.mem_of_getElem? (i := 119) (by decide +kernel)
set_option maxRecDepth 20000 in
theorem wsL_in_r3_3 : (Cond.fieldLink RX1 11 "HallSights$History" "kept" "[LHallSights$Hall;") ∈ lw_tbl := List.mem_of_getElem? (i := 122) (by decide +kernel)
set_option maxRecDepth 20000 in
theorem wsL_in_r3_4 : (Cond.instanceMethod yX2_init) ∈ lw_tbl := List.mem_of_getElem? (i := 133) (by decide +kernel)
set_option maxRecDepth 20000 in
theorem wsL_in_r3_5 : (Cond.code yX2_init cX2_init 1 none) ∈ lw_tbl := List.mem_of_getElem? (i := 134) (by decide +kernel)
set_option maxRecDepth 20000 in
theorem wsL_in_r3_6 : (Cond.methodLink RX2 3 objectInit) ∈ lw_tbl := List.mem_of_getElem? (i := 135) (by decide +kernel)
set_option maxRecDepth 20000 in
theorem wsL_in_r3_7 : (Cond.arrayClass .char) ∈ lw_tbl := List.mem_of_getElem? (i := 149) (by decide +kernel)
set_option maxRecDepth 20000 in
theorem wsL_in_r3_8 : (Cond.fieldLink RX2 9 "HallSights$RowsText" "signs" "[C") ∈ lw_tbl := List.mem_of_getElem? (i := 136) (by decide +kernel)
set_option maxRecDepth 20000 in
theorem wsL_in_r3_9 : (Cond.fieldLink RX2 15 "HallSights$RowsText" "numbers" "[I") ∈ lw_tbl := List.mem_of_getElem? (i := 137) (by decide +kernel)
set_option maxRecDepth 20000 in
theorem wsL_in_r3_10 : (Cond.methodLink RL 82 yL_cell) ∈ lw_tbl := List.mem_of_getElem? (i := 166) (by decide +kernel)
set_option maxRecDepth 20000 in
theorem wsL_in_r3_11 : (Cond.static yL_cell) ∈ lw_tbl := List.mem_of_getElem? (i := 167) (by decide +kernel)
set_option maxRecDepth 20000 in
theorem wsL_in_r3_12 : (Cond.initialized RL) ∈ lw_tbl := List.mem_of_getElem? (i := 16) (by decide +kernel)
set_option maxRecDepth 20000 in
theorem wsL_in_r3_13 : (Cond.code yL_cell cL_cell 2 (some .int)) ∈ lw_tbl := List.mem_of_getElem? (i := 168) rfl
set_option maxRecDepth 20000 in
theorem wsL_in_r3_14 : (Cond.constant RL 7 (1804289383)) ∈ lw_tbl := List.mem_of_getElem? (i := 169) rfl
set_option maxRecDepth 20000 in
theorem wsL_in_r3_15 : (Cond.methodLink RL 18 yL_at) ∈ lw_tbl := List.mem_of_getElem? (i := 170) (by decide +kernel)
set_option maxRecDepth 20000 in
theorem wsL_in_r3_16 : (Cond.static yL_at) ∈ lw_tbl := List.mem_of_getElem? (i := 171) (by decide +kernel)
set_option maxRecDepth 20000 in
theorem wsL_in_r3_17 : (Cond.code yL_at cL_at 2 (some .int)) ∈ lw_tbl := List.mem_of_getElem? (i := 172) rfl
set_option maxRecDepth 20000 in
theorem wsL_in_r3_18 : (Cond.methodLink RL 86 yL_builds) ∈ lw_tbl := List.mem_of_getElem? (i := 173) (by decide +kernel)
set_option maxRecDepth 20000 in
theorem wsL_in_r3_19 : (Cond.static yL_builds) ∈ lw_tbl := List.mem_of_getElem? (i := 174) (by decide +kernel)
set_option maxRecDepth 20000 in
theorem wsL_in_r3_20 : (Cond.code yL_builds cL_builds 12 (some .boolean)) ∈ lw_tbl := List.mem_of_getElem? (i := 175) rfl
set_option maxRecDepth 20000 in
theorem wsL_in_r3_21 : (Cond.methodLink RL 22 yX4_addRow) ∈ lw_tbl := List.mem_of_getElem? (i := 176) (by decide +kernel)
set_option maxRecDepth 20000 in
theorem wsL_in_r3_22 : (Cond.instanceMethod yX4_addRow) ∈ lw_tbl := List.mem_of_getElem? (i := 177) (by decide +kernel)
set_option maxRecDepth 20000 in
theorem wsL_in_r3_23 : (Cond.selects RX4 yX4_addRow yX4_addRow) ∈ lw_tbl := List.mem_of_getElem? (i := 178) (by decide +kernel)
theorem wsL_in_r3 : ∀ w ∈ wsL_law0_r3, w ∈ lw_tbl := (List.forall_mem_cons.mpr ⟨wsL_in_r3_0, (List.forall_mem_cons.mpr ⟨wsL_in_r3_1, (List.forall_mem_cons.mpr ⟨wsL_in_r3_2, (List.forall_mem_cons.mpr ⟨wsL_in_r3_3, (List.forall_mem_cons.mpr ⟨wsL_in_r3_4, (List.forall_mem_cons.mpr ⟨wsL_in_r3_5, (List.forall_mem_cons.mpr ⟨wsL_in_r3_6, (List.forall_mem_cons.mpr ⟨wsL_in_r3_7, (List.forall_mem_cons.mpr ⟨wsL_in_r3_8, (List.forall_mem_cons.mpr ⟨wsL_in_r3_9, (List.forall_mem_cons.mpr ⟨wsL_in_r3_10, (List.forall_mem_cons.mpr ⟨wsL_in_r3_11, (List.forall_mem_cons.mpr ⟨wsL_in_r3_12, (List.forall_mem_cons.mpr ⟨wsL_in_r3_13, (List.forall_mem_cons.mpr ⟨wsL_in_r3_14, (List.forall_mem_cons.mpr ⟨wsL_in_r3_15, (List.forall_mem_cons.mpr ⟨wsL_in_r3_16, (List.forall_mem_cons.mpr ⟨wsL_in_r3_17, (List.forall_mem_cons.mpr ⟨wsL_in_r3_18, (List.forall_mem_cons.mpr ⟨wsL_in_r3_19, (List.forall_mem_cons.mpr ⟨wsL_in_r3_20, (List.forall_mem_cons.mpr ⟨wsL_in_r3_21, (List.forall_mem_cons.mpr ⟨wsL_in_r3_22, (List.forall_mem_cons.mpr ⟨wsL_in_r3_23, (fun _ h9 => absurd h9 List.not_mem_nil)⟩)⟩)⟩)⟩)⟩)⟩)⟩)⟩)⟩)⟩)⟩)⟩)⟩)⟩)⟩)⟩)⟩)⟩)⟩)⟩)⟩)⟩)⟩)⟩)
set_option maxRecDepth 20000 in
theorem wsL_in_r4 : ∀ w ∈ wsL_law0_r4, w ∈ lw_tbl := fun w h => (goodIn_r wsL_law0_r4 [179, 180, 25, 257, 26, 248, 249, 250, 253, 254, 255, 256, 51, 273, 275, 1, 276, 277, 278, 279, 280, 123, 281, 283] (by decide +kernel) (by decide +kernel) w h).1
set_option maxRecDepth 20000 in
theorem wsL_in_r5 : ∀ w ∈ wsL_law0_r5, w ∈ lw_tbl := fun w h => (goodIn_r wsL_law0_r5 [2, 284, 285, 286, 287, 288, 289, 291, 290, 27, 62, 292, 293, 294, 295, 96, 296, 297, 298, 299, 300, 302, 3, 303] (by decide +kernel) (by decide +kernel) w h).1
set_option maxRecDepth 20000 in
theorem wsL_in_r6_0 : (Cond.methodLink RL 28 yX4_removeRow) ∈ lw_tbl := List.mem_of_getElem? (i := 304) (by decide +kernel)
set_option maxRecDepth 20000 in
theorem wsL_in_r6_1 : (Cond.instanceMethod yX4_removeRow) ∈ lw_tbl := List.mem_of_getElem? (i := 305) (by decide +kernel)
set_option maxRecDepth 20000 in
theorem wsL_in_r6_2 : (Cond.selects RX4 yX4_removeRow yX4_removeRow) ∈ lw_tbl := List.mem_of_getElem? (i := 306) (by decide +kernel)
set_option maxRecDepth 20000 in
theorem wsL_in_r6_3 : (Cond.code yX4_removeRow cX4_removeRow 2 (some .int)) ∈ lw_tbl := List.mem_of_getElem? (i := 307) (by decide +kernel)
set_option maxRecDepth 20000 in
theorem wsL_in_r6_4 : (Cond.methodLink RX4 69 yX4_checkRow) ∈ lw_tbl := List.mem_of_getElem? (i := 308) (by decide +kernel)
set_option maxRecDepth 20000 in
theorem wsL_in_r6_5 : (Cond.instanceMethod yX4_checkRow) ∈ lw_tbl := List.mem_of_getElem? (i := 310) (by decide +kernel)
set_option maxRecDepth 20000 in
theorem wsL_in_r6_6 : (Cond.selects RX4 yX4_checkRow yX4_checkRow) ∈ lw_tbl := List.mem_of_getElem? (i := 4) (by decide +kernel)
set_option maxRecDepth 20000 in
theorem wsL_in_r6_7 : (Cond.code yX4_checkRow cX4_checkRow 2 none) ∈ lw_tbl := List.mem_of_getElem? (i := 311) (by decide +kernel)
set_option maxRecDepth 20000 in
theorem wsL_in_r6_8 : (Cond.classLink RX4 263 "java/lang/IndexOutOfBoundsException") ∈ lw_tbl := List.mem_of_getElem? (i := 312) (by decide +kernel)
set_option maxRecDepth 20000 in
theorem wsL_in_r6_9 : (Cond.initialized "java/lang/IndexOutOfBoundsException") ∈ lw_tbl := List.mem_of_getElem? (i := 28) (by decide +kernel)
set_option maxRecDepth 20000 in
theorem wsL_in_r6_10 : (Cond.fieldLink RX4 156 "HallSights$Hall" "rows" "I") ∈ lw_tbl := List.mem_of_getElem? (i := 53) (by decide +kernel)
set_option maxRecDepth 20000 in
theorem wsL_in_r6_11 : (Cond.methodLink RX4 72 yX0_deleteRow) ∈ lw_tbl := List.mem_of_getElem? (i := 328) (by decide +kernel)
set_option maxRecDepth 20000 in
theorem wsL_in_r6_12 : (Cond.instanceMethod yX0_deleteRow) ∈ lw_tbl := List.mem_of_getElem? (i := 329) (by decide +kernel)
set_option maxRecDepth 20000 in
theorem wsL_in_r6_13 : (Cond.selects RX0 yX0_deleteRow yX0_deleteRow) ∈ lw_tbl := List.mem_of_getElem? (i := 330) (by decide +kernel)
set_option maxRecDepth 20000 in
theorem wsL_in_r6_14 : (Cond.code yX0_deleteRow cX0_deleteRow 3 none) ∈ lw_tbl := List.mem_of_getElem? (i := 331) (by decide +kernel)
set_option maxRecDepth 20000 in
theorem wsL_in_r6_15 : (Cond.methodLink RX4 75 yX0_seatsInAll) ∈ lw_tbl := List.mem_of_getElem? (i := 332) (by decide +kernel)
set_option maxRecDepth 20000 in
theorem wsL_in_r6_16 : (Cond.instanceMethod yX0_seatsInAll) ∈ lw_tbl := List.mem_of_getElem? (i := 333) (by decide +kernel)
set_option maxRecDepth 20000 in
theorem wsL_in_r6_17 : (Cond.selects RX0 yX0_seatsInAll yX0_seatsInAll) ∈ lw_tbl := List.mem_of_getElem? (i := 334) (by decide +kernel)
set_option maxRecDepth 20000 in
theorem wsL_in_r6_18 : (Cond.code yX0_seatsInAll cX0_seatsInAll 3 (some .int)) ∈ lw_tbl := List.mem_of_getElem? (i := 335) (by decide +kernel)
set_option maxRecDepth 20000 in
theorem wsL_in_r6_19 : (Cond.methodLink RL 32 yL_all) ∈ lw_tbl := List.mem_of_getElem? (i := 336) (by decide +kernel)
set_option maxRecDepth 20000 in
theorem wsL_in_r6_20 : (Cond.static yL_all) ∈ lw_tbl := List.mem_of_getElem? (i := 337) (by decide +kernel)
set_option maxRecDepth 20000 in
theorem wsL_in_r6_21 : (Cond.code yL_all cL_all 6 (some .int)) ∈ lw_tbl := List.mem_of_getElem? (i := 338) rfl
set_option maxRecDepth 20000 in
theorem wsL_in_r6_22 : (Cond.methodLink RL 36 yX4_removeColumn) ∈ lw_tbl := List.mem_of_getElem? (i := 339) (by decide +kernel)
set_option maxRecDepth 20000 in
theorem wsL_in_r6_23 : (Cond.instanceMethod yX4_removeColumn) ∈ lw_tbl := List.mem_of_getElem? (i := 340) (by decide +kernel)
theorem wsL_in_r6 : ∀ w ∈ wsL_law0_r6, w ∈ lw_tbl := (List.forall_mem_cons.mpr ⟨wsL_in_r6_0, (List.forall_mem_cons.mpr ⟨wsL_in_r6_1, (List.forall_mem_cons.mpr ⟨wsL_in_r6_2, (List.forall_mem_cons.mpr ⟨wsL_in_r6_3, (List.forall_mem_cons.mpr ⟨wsL_in_r6_4, (List.forall_mem_cons.mpr ⟨wsL_in_r6_5, (List.forall_mem_cons.mpr ⟨wsL_in_r6_6, (List.forall_mem_cons.mpr ⟨wsL_in_r6_7, (List.forall_mem_cons.mpr ⟨wsL_in_r6_8, (List.forall_mem_cons.mpr ⟨wsL_in_r6_9, (List.forall_mem_cons.mpr ⟨wsL_in_r6_10, (List.forall_mem_cons.mpr ⟨wsL_in_r6_11, (List.forall_mem_cons.mpr ⟨wsL_in_r6_12, (List.forall_mem_cons.mpr ⟨wsL_in_r6_13, (List.forall_mem_cons.mpr ⟨wsL_in_r6_14, (List.forall_mem_cons.mpr ⟨wsL_in_r6_15, (List.forall_mem_cons.mpr ⟨wsL_in_r6_16, (List.forall_mem_cons.mpr ⟨wsL_in_r6_17, (List.forall_mem_cons.mpr ⟨wsL_in_r6_18, (List.forall_mem_cons.mpr ⟨wsL_in_r6_19, (List.forall_mem_cons.mpr ⟨wsL_in_r6_20, (List.forall_mem_cons.mpr ⟨wsL_in_r6_21, (List.forall_mem_cons.mpr ⟨wsL_in_r6_22, (List.forall_mem_cons.mpr ⟨wsL_in_r6_23, (fun _ h9 => absurd h9 List.not_mem_nil)⟩)⟩)⟩)⟩)⟩)⟩)⟩)⟩)⟩)⟩)⟩)⟩)⟩)⟩)⟩)⟩)⟩)⟩)⟩)⟩)⟩)⟩)⟩)⟩)
set_option maxRecDepth 20000 in
theorem wsL_in_r7 : ∀ w ∈ wsL_law0_r7, w ∈ lw_tbl := fun w h => (goodIn_r wsL_law0_r7 [341, 342, 63, 343, 345, 5, 346, 348, 349, 350, 351, 352, 353, 354, 355, 359, 360, 361, 362, 363, 364, 365, 366, 57] (by decide +kernel) (by decide +kernel) w h).1
set_option maxRecDepth 20000 in
theorem wsL_in_r8_0 : (Cond.methodLink RL 45 yX4_set) ∈ lw_tbl := List.mem_of_getElem? (i := 367) (by decide +kernel)
set_option maxRecDepth 20000 in
theorem wsL_in_r8_1 : (Cond.instanceMethod yX4_set) ∈ lw_tbl := List.mem_of_getElem? (i := 368) (by decide +kernel)
set_option maxRecDepth 20000 in
theorem wsL_in_r8_2 : (Cond.selects RX4 yX4_set yX4_set) ∈ lw_tbl := List.mem_of_getElem? (i := 369) (by decide +kernel)
set_option maxRecDepth 20000 in
theorem wsL_in_r8_3 : (Cond.code yX4_set cX4_set 4 (some .int)) ∈ lw_tbl := List.mem_of_getElem? (i := 370) (by decide +kernel)
set_option maxRecDepth 20000 in
theorem wsL_in_r8_4 : (Cond.fieldLink RX4 105 "HallSights" "LEAST_OF_SETTING" "[I") ∈ lw_tbl := List.mem_of_getElem? (i := 375) (by decide +kernel)
set_option maxRecDepth 20000 in
theorem wsL_in_r8_5 : (Cond.fieldLink RX4 108 "HallSights" "MOST_OF_SETTING" "[I") ∈ lw_tbl := List.mem_of_getElem? (i := 377) (by decide +kernel)
set_option maxRecDepth 20000 in
theorem wsL_in_r8_6 : (Cond.fieldLink RX4 113 "HallSights$Hall" "settings" "[I") ∈ lw_tbl := List.mem_of_getElem? (i := 71) (by decide +kernel)
set_option maxRecDepth 20000 in
theorem wsL_in_r8_7 : (Cond.methodLink RX4 102 yX4_checkSetting) ∈ lw_tbl := List.mem_of_getElem? (i := 371) (by decide +kernel)
set_option maxRecDepth 20000 in
theorem wsL_in_r8_8 : (Cond.static yX4_checkSetting) ∈ lw_tbl := List.mem_of_getElem? (i := 372) (by decide +kernel)
set_option maxRecDepth 20000 in
theorem wsL_in_r8_9 : (Cond.code yX4_checkSetting cX4_checkSetting 1 none) ∈ lw_tbl := List.mem_of_getElem? (i := 373) (by decide +kernel)
set_option maxRecDepth 20000 in
theorem wsL_in_r8_10 : (Cond.methodLink RL 90 yL_sits) ∈ lw_tbl := List.mem_of_getElem? (i := 380) (by decide +kernel)
set_option maxRecDepth 20000 in
theorem wsL_in_r8_11 : (Cond.static yL_sits) ∈ lw_tbl := List.mem_of_getElem? (i := 381) (by decide +kernel)
set_option maxRecDepth 20000 in
theorem wsL_in_r8_12 : (Cond.code yL_sits cL_sits 17 (some .boolean)) ∈ lw_tbl := List.mem_of_getElem? (i := 382) rfl
set_option maxRecDepth 20000 in
theorem wsL_in_r8_13 : (Cond.methodLink RL 48 yX4_leave) ∈ lw_tbl := List.mem_of_getElem? (i := 383) (by decide +kernel)
set_option maxRecDepth 20000 in
theorem wsL_in_r8_14 : (Cond.instanceMethod yX4_leave) ∈ lw_tbl := List.mem_of_getElem? (i := 384) (by decide +kernel)
set_option maxRecDepth 20000 in
theorem wsL_in_r8_15 : (Cond.selects RX4 yX4_leave yX4_leave) ∈ lw_tbl := List.mem_of_getElem? (i := 385) (by decide +kernel)
set_option maxRecDepth 20000 in
theorem wsL_in_r8_16 : (Cond.code yX4_leave cX4_leave 3 (some .int)) ∈ lw_tbl := List.mem_of_getElem? (i := 386) (by decide +kernel)
set_option maxRecDepth 20000 in
theorem wsL_in_r8_17 : (Cond.methodLink RX4 116 yX4_checkSeat) ∈ lw_tbl := List.mem_of_getElem? (i := 387) (by decide +kernel)
set_option maxRecDepth 20000 in
theorem wsL_in_r8_18 : (Cond.instanceMethod yX4_checkSeat) ∈ lw_tbl := List.mem_of_getElem? (i := 389) (by decide +kernel)
set_option maxRecDepth 20000 in
theorem wsL_in_r8_19 : (Cond.selects RX4 yX4_checkSeat yX4_checkSeat) ∈ lw_tbl := List.mem_of_getElem? (i := 6) (by decide +kernel)
set_option maxRecDepth 20000 in
theorem wsL_in_r8_20 : (Cond.code yX4_checkSeat cX4_checkSeat 3 none) ∈ lw_tbl := List.mem_of_getElem? (i := 390) (by decide +kernel)
set_option maxRecDepth 20000 in
theorem wsL_in_r8_21 : (Cond.fieldLink RX4 268 "HallSights$Hall" "seats" "[I") ∈ lw_tbl := List.mem_of_getElem? (i := 60) (by decide +kernel)
set_option maxRecDepth 20000 in
theorem wsL_in_r8_22 : (Cond.methodLink RX4 120 yX0_isTaken) ∈ lw_tbl := List.mem_of_getElem? (i := 392) (by decide +kernel)
set_option maxRecDepth 20000 in
theorem wsL_in_r8_23 : (Cond.instanceMethod yX0_isTaken) ∈ lw_tbl := List.mem_of_getElem? (i := 393) (by decide +kernel)
theorem wsL_in_r8 : ∀ w ∈ wsL_law0_r8, w ∈ lw_tbl := (List.forall_mem_cons.mpr ⟨wsL_in_r8_0, (List.forall_mem_cons.mpr ⟨wsL_in_r8_1, (List.forall_mem_cons.mpr ⟨wsL_in_r8_2, (List.forall_mem_cons.mpr ⟨wsL_in_r8_3, (List.forall_mem_cons.mpr ⟨wsL_in_r8_4, (List.forall_mem_cons.mpr ⟨wsL_in_r8_5, (List.forall_mem_cons.mpr ⟨wsL_in_r8_6, (List.forall_mem_cons.mpr ⟨wsL_in_r8_7, (List.forall_mem_cons.mpr ⟨wsL_in_r8_8, (List.forall_mem_cons.mpr ⟨wsL_in_r8_9, (List.forall_mem_cons.mpr ⟨wsL_in_r8_10, (List.forall_mem_cons.mpr ⟨wsL_in_r8_11, (List.forall_mem_cons.mpr ⟨wsL_in_r8_12, (List.forall_mem_cons.mpr ⟨wsL_in_r8_13, (List.forall_mem_cons.mpr ⟨wsL_in_r8_14, (List.forall_mem_cons.mpr ⟨wsL_in_r8_15, (List.forall_mem_cons.mpr ⟨wsL_in_r8_16, (List.forall_mem_cons.mpr ⟨wsL_in_r8_17, (List.forall_mem_cons.mpr ⟨wsL_in_r8_18, (List.forall_mem_cons.mpr ⟨wsL_in_r8_19, (List.forall_mem_cons.mpr ⟨wsL_in_r8_20, (List.forall_mem_cons.mpr ⟨wsL_in_r8_21, (List.forall_mem_cons.mpr ⟨wsL_in_r8_22, (List.forall_mem_cons.mpr ⟨wsL_in_r8_23, (fun _ h9 => absurd h9 List.not_mem_nil)⟩)⟩)⟩)⟩)⟩)⟩)⟩)⟩)⟩)⟩)⟩)⟩)⟩)⟩)⟩)⟩)⟩)⟩)⟩)⟩)⟩)⟩)⟩)⟩)
end
section
set_option maxRecDepth 20000 in
theorem wsL_in_r9_0 : (Cond.selects RX0 yX0_isTaken yX0_isTaken) ∈ lw_tbl := List.mem_of_getElem? (i := 394) (by decide +kernel)
set_option maxRecDepth 20000 in
theorem wsL_in_r9_1 : (Cond.code yX0_isTaken cX0_isTaken 3 (some .boolean)) ∈ lw_tbl := List.mem_of_getElem? (i := 395) (by decide +kernel)
set_option maxRecDepth 20000 in
theorem wsL_in_r9_2 : (Cond.methodLink RX4 136 yX0_vacate) ∈ lw_tbl := List.mem_of_getElem? (i := 397) (by decide +kernel)
set_option maxRecDepth 20000 in
theorem wsL_in_r9_3 : (Cond.instanceMethod yX0_vacate) ∈ lw_tbl := List.mem_of_getElem? (i := 398) (by decide +kernel)
set_option maxRecDepth 20000 in
theorem wsL_in_r9_4 : (Cond.selects RX0 yX0_vacate yX0_vacate) ∈ lw_tbl := List.mem_of_getElem? (i := 399) (by decide +kernel)
set_option maxRecDepth 20000 in
theorem wsL_in_r9_5 : (Cond.code yX0_vacate cX0_vacate 3 none) ∈ lw_tbl := List.mem_of_getElem? (i := 400) (by decide +kernel)
set_option maxRecDepth 20000 in
theorem wsL_in_r9_6 : (Cond.methodLink RX0 53 yX0_bitsOf) ∈ lw_tbl := List.mem_of_getElem? (i := 401) (by decide +kernel)
set_option maxRecDepth 20000 in
theorem wsL_in_r9_7 : (Cond.static yX0_bitsOf) ∈ lw_tbl := List.mem_of_getElem? (i := 402) (by decide +kernel)
set_option maxRecDepth 20000 in
theorem wsL_in_r9_8 : (Cond.code yX0_bitsOf cX0_bitsOf 2 (some .int)) ∈ lw_tbl := List.mem_of_getElem? (i := 403) (by decide +kernel)
set_option maxRecDepth 20000 in
theorem wsL_in_r9_9 : (Cond.methodLink RX4 139 yX0_takenInAll) ∈ lw_tbl := List.mem_of_getElem? (i := 404) (by decide +kernel)
set_option maxRecDepth 20000 in
theorem wsL_in_r9_10 : (Cond.instanceMethod yX0_takenInAll) ∈ lw_tbl := List.mem_of_getElem? (i := 405) (by decide +kernel)
set_option maxRecDepth 20000 in
theorem wsL_in_r9_11 : (Cond.selects RX0 yX0_takenInAll yX0_takenInAll) ∈ lw_tbl := List.mem_of_getElem? (i := 406) (by decide +kernel)
set_option maxRecDepth 20000 in
theorem wsL_in_r9_12 : (Cond.code yX0_takenInAll cX0_takenInAll 3 (some .int)) ∈ lw_tbl := List.mem_of_getElem? (i := 407) (by decide +kernel)
set_option maxRecDepth 20000 in
theorem wsL_in_r9_13 : (Cond.methodLink RX0 63 yX0_takenInRow) ∈ lw_tbl := List.mem_of_getElem? (i := 408) (by decide +kernel)
set_option maxRecDepth 20000 in
theorem wsL_in_r9_14 : (Cond.instanceMethod yX0_takenInRow) ∈ lw_tbl := List.mem_of_getElem? (i := 409) (by decide +kernel)
set_option maxRecDepth 20000 in
theorem wsL_in_r9_15 : (Cond.selects RX0 yX0_takenInRow yX0_takenInRow) ∈ lw_tbl := List.mem_of_getElem? (i := 410) (by decide +kernel)
set_option maxRecDepth 20000 in
theorem wsL_in_r9_16 : (Cond.code yX0_takenInRow cX0_takenInRow 2 (some .int)) ∈ lw_tbl := List.mem_of_getElem? (i := 411) (by decide +kernel)
set_option maxRecDepth 20000 in
theorem wsL_in_r9_17 : (Cond.methodLink RX0 57 yJ6_bitCount_0f7a4) ∈ lw_tbl := List.mem_of_getElem? (i := 412) (by decide +kernel)
set_option maxRecDepth 20000 in
theorem wsL_in_r9_18 : (Cond.static yJ6_bitCount_0f7a4) ∈ lw_tbl := List.mem_of_getElem? (i := 413) (by decide +kernel)
set_option maxRecDepth 20000 in
theorem wsL_in_r9_19 : (Cond.initialized RJ6) ∈ lw_tbl := List.mem_of_getElem? (i := 29) (by decide +kernel)
set_option maxRecDepth 20000 in
theorem wsL_in_r9_20 : (Cond.code yJ6_bitCount_0f7a4 cJ6_bitCount_0f7a4 1 (some .int)) ∈ lw_tbl := List.mem_of_getElem? (i := 414) (by decide +kernel)
set_option maxRecDepth 20000 in
theorem wsL_in_r9_21 : (Cond.constant RJ6 265 (1431655765)) ∈ lw_tbl := List.mem_of_getElem? (i := 415) rfl
set_option maxRecDepth 20000 in
theorem wsL_in_r9_22 : (Cond.constant RJ6 266 (858993459)) ∈ lw_tbl := List.mem_of_getElem? (i := 416) rfl
set_option maxRecDepth 20000 in
theorem wsL_in_r9_23 : (Cond.constant RJ6 267 (252645135)) ∈ lw_tbl := List.mem_of_getElem? (i := 417) rfl
theorem wsL_in_r9 : ∀ w ∈ wsL_law0_r9, w ∈ lw_tbl := (List.forall_mem_cons.mpr ⟨wsL_in_r9_0, (List.forall_mem_cons.mpr ⟨wsL_in_r9_1, (List.forall_mem_cons.mpr ⟨wsL_in_r9_2, (List.forall_mem_cons.mpr ⟨wsL_in_r9_3, (List.forall_mem_cons.mpr ⟨wsL_in_r9_4, (List.forall_mem_cons.mpr ⟨wsL_in_r9_5, (List.forall_mem_cons.mpr ⟨wsL_in_r9_6, (List.forall_mem_cons.mpr ⟨wsL_in_r9_7, (List.forall_mem_cons.mpr ⟨wsL_in_r9_8, (List.forall_mem_cons.mpr ⟨wsL_in_r9_9, (List.forall_mem_cons.mpr ⟨wsL_in_r9_10, (List.forall_mem_cons.mpr ⟨wsL_in_r9_11, (List.forall_mem_cons.mpr ⟨wsL_in_r9_12, (List.forall_mem_cons.mpr ⟨wsL_in_r9_13, (List.forall_mem_cons.mpr ⟨wsL_in_r9_14, (List.forall_mem_cons.mpr ⟨wsL_in_r9_15, (List.forall_mem_cons.mpr ⟨wsL_in_r9_16, (List.forall_mem_cons.mpr ⟨wsL_in_r9_17, (List.forall_mem_cons.mpr ⟨wsL_in_r9_18, (List.forall_mem_cons.mpr ⟨wsL_in_r9_19, (List.forall_mem_cons.mpr ⟨wsL_in_r9_20, (List.forall_mem_cons.mpr ⟨wsL_in_r9_21, (List.forall_mem_cons.mpr ⟨wsL_in_r9_22, (List.forall_mem_cons.mpr ⟨wsL_in_r9_23, (fun _ h9 => absurd h9 List.not_mem_nil)⟩)⟩)⟩)⟩)⟩)⟩)⟩)⟩)⟩)⟩)⟩)⟩)⟩)⟩)⟩)⟩)⟩)⟩)⟩)⟩)⟩)⟩)⟩)⟩)
set_option maxRecDepth 20000 in
theorem wsL_in_r10 : ∀ w ∈ wsL_law0_r10, w ∈ lw_tbl := fun w h => (goodIn_r wsL_law0_r10 [418, 419, 420, 421, 423, 424, 425, 426, 427, 428, 429, 430, 431, 432, 433, 434, 435, 440, 441, 30, 442, 436, 437, 438] (by decide +kernel) (by decide +kernel) w h).1
set_option maxRecDepth 20000 in
theorem wsL_in_r11_0 : (Cond.code yX0_sideOf cX0_sideOf 3 (some .int)) ∈ lw_tbl := List.mem_of_getElem? (i := 439) (by decide +kernel)
set_option maxRecDepth 20000 in
theorem wsL_in_r11_1 : (Cond.methodLink RX0 81 yX0_headOverPoint) ∈ lw_tbl := List.mem_of_getElem? (i := 443) (by decide +kernel)
set_option maxRecDepth 20000 in
theorem wsL_in_r11_2 : (Cond.instanceMethod yX0_headOverPoint) ∈ lw_tbl := List.mem_of_getElem? (i := 445) (by decide +kernel)
set_option maxRecDepth 20000 in
theorem wsL_in_r11_3 : (Cond.selects RX0 yX0_headOverPoint yX0_headOverPoint) ∈ lw_tbl := List.mem_of_getElem? (i := 7) (by decide +kernel)
set_option maxRecDepth 20000 in
theorem wsL_in_r11_4 : (Cond.code yX0_headOverPoint cX0_headOverPoint 2 (some .int)) ∈ lw_tbl := List.mem_of_getElem? (i := 446) (by decide +kernel)
set_option maxRecDepth 20000 in
theorem wsL_in_r11_5 : (Cond.methodLink RX0 84 yX0_eyeOverPoint) ∈ lw_tbl := List.mem_of_getElem? (i := 447) (by decide +kernel)
set_option maxRecDepth 20000 in
theorem wsL_in_r11_6 : (Cond.instanceMethod yX0_eyeOverPoint) ∈ lw_tbl := List.mem_of_getElem? (i := 449) (by decide +kernel)
set_option maxRecDepth 20000 in
theorem wsL_in_r11_7 : (Cond.selects RX0 yX0_eyeOverPoint yX0_eyeOverPoint) ∈ lw_tbl := List.mem_of_getElem? (i := 8) (by decide +kernel)
set_option maxRecDepth 20000 in
theorem wsL_in_r11_8 : (Cond.code yX0_eyeOverPoint cX0_eyeOverPoint 2 (some .int)) ∈ lw_tbl := List.mem_of_getElem? (i := 450) (by decide +kernel)
set_option maxRecDepth 20000 in
theorem wsL_in_r11_9 : (Cond.methodLink RL 54 yL_people) ∈ lw_tbl := List.mem_of_getElem? (i := 451) (by decide +kernel)
set_option maxRecDepth 20000 in
theorem wsL_in_r11_10 : (Cond.static yL_people) ∈ lw_tbl := List.mem_of_getElem? (i := 452) (by decide +kernel)
set_option maxRecDepth 20000 in
theorem wsL_in_r11_11 : (Cond.code yL_people cL_people 7 (some .int)) ∈ lw_tbl := List.mem_of_getElem? (i := 453) rfl
set_option maxRecDepth 20000 in
theorem wsL_in_r11_12 : (Cond.methodLink RL 14 yL_inWay) ∈ lw_tbl := List.mem_of_getElem? (i := 454) (by decide +kernel)
set_option maxRecDepth 20000 in
theorem wsL_in_r11_13 : (Cond.static yL_inWay) ∈ lw_tbl := List.mem_of_getElem? (i := 455) (by decide +kernel)
set_option maxRecDepth 20000 in
theorem wsL_in_r11_14 : (Cond.code yL_inWay cL_inWay 11 (some .boolean)) ∈ lw_tbl := List.mem_of_getElem? (i := 456) rfl
set_option maxRecDepth 20000 in
theorem wsL_in_r11_15 : (Cond.methodLink RL 8 yL_side) ∈ lw_tbl := List.mem_of_getElem? (i := 457) (by decide +kernel)
set_option maxRecDepth 20000 in
theorem wsL_in_r11_16 : (Cond.static yL_side) ∈ lw_tbl := List.mem_of_getElem? (i := 458) (by decide +kernel)
set_option maxRecDepth 20000 in
theorem wsL_in_r11_17 : (Cond.code yL_side cL_side 3 (some .int)) ∈ lw_tbl := List.mem_of_getElem? (i := 459) rfl
set_option maxRecDepth 20000 in
theorem wsL_in_r11_18 : (Cond.methodLink RL 58 yX4_clear) ∈ lw_tbl := List.mem_of_getElem? (i := 460) (by decide +kernel)
set_option maxRecDepth 20000 in
theorem wsL_in_r11_19 : (Cond.instanceMethod yX4_clear) ∈ lw_tbl := List.mem_of_getElem? (i := 461) (by decide +kernel)
set_option maxRecDepth 20000 in
theorem wsL_in_r11_20 : (Cond.selects RX4 yX4_clear yX4_clear) ∈ lw_tbl := List.mem_of_getElem? (i := 462) (by decide +kernel)
set_option maxRecDepth 20000 in
theorem wsL_in_r11_21 : (Cond.code yX4_clear cX4_clear 2 (some .int)) ∈ lw_tbl := List.mem_of_getElem? (i := 463) (by decide +kernel)
set_option maxRecDepth 20000 in
theorem wsL_in_r11_22 : (Cond.methodLink RX4 153 yX0_vacateAll) ∈ lw_tbl := List.mem_of_getElem? (i := 464) (by decide +kernel)
set_option maxRecDepth 20000 in
theorem wsL_in_r11_23 : (Cond.instanceMethod yX0_vacateAll) ∈ lw_tbl := List.mem_of_getElem? (i := 465) (by decide +kernel)
theorem wsL_in_r11 : ∀ w ∈ wsL_law0_r11, w ∈ lw_tbl := (List.forall_mem_cons.mpr ⟨wsL_in_r11_0, (List.forall_mem_cons.mpr ⟨wsL_in_r11_1, (List.forall_mem_cons.mpr ⟨wsL_in_r11_2, (List.forall_mem_cons.mpr ⟨wsL_in_r11_3, (List.forall_mem_cons.mpr ⟨wsL_in_r11_4, (List.forall_mem_cons.mpr ⟨wsL_in_r11_5, (List.forall_mem_cons.mpr ⟨wsL_in_r11_6, (List.forall_mem_cons.mpr ⟨wsL_in_r11_7, (List.forall_mem_cons.mpr ⟨wsL_in_r11_8, (List.forall_mem_cons.mpr ⟨wsL_in_r11_9, (List.forall_mem_cons.mpr ⟨wsL_in_r11_10, (List.forall_mem_cons.mpr ⟨wsL_in_r11_11, (List.forall_mem_cons.mpr ⟨wsL_in_r11_12, (List.forall_mem_cons.mpr ⟨wsL_in_r11_13, (List.forall_mem_cons.mpr ⟨wsL_in_r11_14, (List.forall_mem_cons.mpr ⟨wsL_in_r11_15, (List.forall_mem_cons.mpr ⟨wsL_in_r11_16, (List.forall_mem_cons.mpr ⟨wsL_in_r11_17, (List.forall_mem_cons.mpr ⟨wsL_in_r11_18, (List.forall_mem_cons.mpr ⟨wsL_in_r11_19, (List.forall_mem_cons.mpr ⟨wsL_in_r11_20, (List.forall_mem_cons.mpr ⟨wsL_in_r11_21, (List.forall_mem_cons.mpr ⟨wsL_in_r11_22, (List.forall_mem_cons.mpr ⟨wsL_in_r11_23, (fun _ h9 => absurd h9 List.not_mem_nil)⟩)⟩)⟩)⟩)⟩)⟩)⟩)⟩)⟩)⟩)⟩)⟩)⟩)⟩)⟩)⟩)⟩)⟩)⟩)⟩)⟩)⟩)⟩)⟩)
set_option maxRecDepth 20000 in
theorem wsL_in_r12_0 : (Cond.selects RX0 yX0_vacateAll yX0_vacateAll) ∈ lw_tbl := List.mem_of_getElem? (i := 466) (by decide +kernel)
set_option maxRecDepth 20000 in
theorem wsL_in_r12_1 : (Cond.code yX0_vacateAll cX0_vacateAll 2 none) ∈ lw_tbl := List.mem_of_getElem? (i := 467) (by decide +kernel)
set_option maxRecDepth 20000 in
theorem wsL_in_r12_2 : (Cond.methodLink RL 62 yL_columns) ∈ lw_tbl := List.mem_of_getElem? (i := 468) (by decide +kernel)
set_option maxRecDepth 20000 in
theorem wsL_in_r12_3 : (Cond.static yL_columns) ∈ lw_tbl := List.mem_of_getElem? (i := 469) (by decide +kernel)
set_option maxRecDepth 20000 in
theorem wsL_in_r12_4 : (Cond.code yL_columns cL_columns 9 (some .int)) ∈ lw_tbl := List.mem_of_getElem? (i := 470) rfl
set_option maxRecDepth 20000 in
theorem wsL_in_r12_5 : (Cond.methodLink RL 66 yX4_count) ∈ lw_tbl := List.mem_of_getElem? (i := 471) (by decide +kernel)
set_option maxRecDepth 20000 in
theorem wsL_in_r12_6 : (Cond.instanceMethod yX4_count) ∈ lw_tbl := List.mem_of_getElem? (i := 472) (by decide +kernel)
set_option maxRecDepth 20000 in
theorem wsL_in_r12_7 : (Cond.selects RX4 yX4_count yX4_count) ∈ lw_tbl := List.mem_of_getElem? (i := 473) (by decide +kernel)
set_option maxRecDepth 20000 in
theorem wsL_in_r12_8 : (Cond.code yX4_count cX4_count 2 (some .int)) ∈ lw_tbl := List.mem_of_getElem? (i := 474) (by decide +kernel)
set_option maxRecDepth 20000 in
theorem wsL_in_r12_9 : (Cond.methodLink RX4 206 yX4_checkWhat) ∈ lw_tbl := List.mem_of_getElem? (i := 475) (by decide +kernel)
set_option maxRecDepth 20000 in
theorem wsL_in_r12_10 : (Cond.static yX4_checkWhat) ∈ lw_tbl := List.mem_of_getElem? (i := 476) (by decide +kernel)
set_option maxRecDepth 20000 in
theorem wsL_in_r12_11 : (Cond.code yX4_checkWhat cX4_checkWhat 2 none) ∈ lw_tbl := List.mem_of_getElem? (i := 477) (by decide +kernel)
set_option maxRecDepth 20000 in
theorem wsL_in_r12_12 : (Cond.methodLink RX4 144 yX3_look) ∈ lw_tbl := List.mem_of_getElem? (i := 479) (by decide +kernel)
set_option maxRecDepth 20000 in
theorem wsL_in_r12_13 : (Cond.instanceMethod yX3_look) ∈ lw_tbl := List.mem_of_getElem? (i := 480) (by decide +kernel)
set_option maxRecDepth 20000 in
theorem wsL_in_r12_14 : (Cond.selects RX3 yX3_look yX3_look) ∈ lw_tbl := List.mem_of_getElem? (i := 481) (by decide +kernel)
set_option maxRecDepth 20000 in
theorem wsL_in_r12_15 : (Cond.code yX3_look cX3_look 4 none) ∈ lw_tbl := List.mem_of_getElem? (i := 482) (by decide +kernel)
set_option maxRecDepth 20000 in
theorem wsL_in_r12_16 : (Cond.fieldLink RX3 32 "HallSights$Hall" "rows" "I") ∈ lw_tbl := List.mem_of_getElem? (i := 52) (by decide +kernel)
set_option maxRecDepth 20000 in
theorem wsL_in_r12_17 : (Cond.fieldLink RX3 36 "HallSights$Hall" "seats" "[I") ∈ lw_tbl := List.mem_of_getElem? (i := 59) (by decide +kernel)
set_option maxRecDepth 20000 in
theorem wsL_in_r12_18 : (Cond.methodLink RX3 39 yX3_cellOf) ∈ lw_tbl := List.mem_of_getElem? (i := 483) (by decide +kernel)
set_option maxRecDepth 20000 in
theorem wsL_in_r12_19 : (Cond.static yX3_cellOf) ∈ lw_tbl := List.mem_of_getElem? (i := 484) (by decide +kernel)
set_option maxRecDepth 20000 in
theorem wsL_in_r12_20 : (Cond.code yX3_cellOf cX3_cellOf 2 (some .int)) ∈ lw_tbl := List.mem_of_getElem? (i := 485) (by decide +kernel)
set_option maxRecDepth 20000 in
theorem wsL_in_r12_21 : (Cond.methodLink RX3 43 yX0_peopleInWay) ∈ lw_tbl := List.mem_of_getElem? (i := 486) (by decide +kernel)
set_option maxRecDepth 20000 in
theorem wsL_in_r12_22 : (Cond.methodLink RX3 46 yX0_columnsInWay) ∈ lw_tbl := List.mem_of_getElem? (i := 487) (by decide +kernel)
set_option maxRecDepth 20000 in
theorem wsL_in_r12_23 : (Cond.instanceMethod yX0_columnsInWay) ∈ lw_tbl := List.mem_of_getElem? (i := 488) (by decide +kernel)
theorem wsL_in_r12 : ∀ w ∈ wsL_law0_r12, w ∈ lw_tbl := (List.forall_mem_cons.mpr ⟨wsL_in_r12_0, (List.forall_mem_cons.mpr ⟨wsL_in_r12_1, (List.forall_mem_cons.mpr ⟨wsL_in_r12_2, (List.forall_mem_cons.mpr ⟨wsL_in_r12_3, (List.forall_mem_cons.mpr ⟨wsL_in_r12_4, (List.forall_mem_cons.mpr ⟨wsL_in_r12_5, (List.forall_mem_cons.mpr ⟨wsL_in_r12_6, (List.forall_mem_cons.mpr ⟨wsL_in_r12_7, (List.forall_mem_cons.mpr ⟨wsL_in_r12_8, (List.forall_mem_cons.mpr ⟨wsL_in_r12_9, (List.forall_mem_cons.mpr ⟨wsL_in_r12_10, (List.forall_mem_cons.mpr ⟨wsL_in_r12_11, (List.forall_mem_cons.mpr ⟨wsL_in_r12_12, (List.forall_mem_cons.mpr ⟨wsL_in_r12_13, (List.forall_mem_cons.mpr ⟨wsL_in_r12_14, (List.forall_mem_cons.mpr ⟨wsL_in_r12_15, (List.forall_mem_cons.mpr ⟨wsL_in_r12_16, (List.forall_mem_cons.mpr ⟨wsL_in_r12_17, (List.forall_mem_cons.mpr ⟨wsL_in_r12_18, (List.forall_mem_cons.mpr ⟨wsL_in_r12_19, (List.forall_mem_cons.mpr ⟨wsL_in_r12_20, (List.forall_mem_cons.mpr ⟨wsL_in_r12_21, (List.forall_mem_cons.mpr ⟨wsL_in_r12_22, (List.forall_mem_cons.mpr ⟨wsL_in_r12_23, (fun _ h9 => absurd h9 List.not_mem_nil)⟩)⟩)⟩)⟩)⟩)⟩)⟩)⟩)⟩)⟩)⟩)⟩)⟩)⟩)⟩)⟩)⟩)⟩)⟩)⟩)⟩)⟩)⟩)⟩)
set_option maxRecDepth 20000 in
theorem wsL_in_r13 : ∀ w ∈ wsL_law0_r13, w ∈ lw_tbl := fun w h => (goodIn_r wsL_law0_r13 [489, 490, 491, 492, 493, 494, 495, 497, 9, 498, 504, 499, 501, 10, 502, 503, 505, 507, 11, 508, 124, 509, 510, 511] (by decide +kernel) (by decide +kernel) w h).1
set_option maxRecDepth 20000 in
theorem wsL_in_r14 : ∀ w ∈ wsL_law0_r14, w ∈ lw_tbl := fun w h => (goodIn_r wsL_law0_r14 [512, 513, 514, 515, 516, 517, 518, 519, 520, 521, 522, 523, 524, 525, 526, 527, 528, 529, 530, 531, 532, 533, 534, 535] (by decide +kernel) (by decide +kernel) w h).1
set_option maxRecDepth 20000 in
theorem wsL_in_r15_0 : (Cond.code Lib.Math.max.name Lib.Math.max.code 2 (some .int)) ∈ lw_tbl := List.mem_of_getElem? (i := 536) (by decide +kernel)
set_option maxRecDepth 20000 in
theorem wsL_in_r15_1 : (Cond.methodLink RL 69 yX4_seatParty) ∈ lw_tbl := List.mem_of_getElem? (i := 537) (by decide +kernel)
set_option maxRecDepth 20000 in
theorem wsL_in_r15_2 : (Cond.instanceMethod yX4_seatParty) ∈ lw_tbl := List.mem_of_getElem? (i := 538) (by decide +kernel)
set_option maxRecDepth 20000 in
theorem wsL_in_r15_3 : (Cond.selects RX4 yX4_seatParty yX4_seatParty) ∈ lw_tbl := List.mem_of_getElem? (i := 539) (by decide +kernel)
set_option maxRecDepth 20000 in
theorem wsL_in_r15_4 : (Cond.code yX4_seatParty cX4_seatParty 3 (some .int)) ∈ lw_tbl := List.mem_of_getElem? (i := 540) (by decide +kernel)
set_option maxRecDepth 20000 in
theorem wsL_in_r15_5 : (Cond.methodLink RX4 147 yX3_placeForParty) ∈ lw_tbl := List.mem_of_getElem? (i := 542) (by decide +kernel)
set_option maxRecDepth 20000 in
theorem wsL_in_r15_6 : (Cond.instanceMethod yX3_placeForParty) ∈ lw_tbl := List.mem_of_getElem? (i := 543) (by decide +kernel)
set_option maxRecDepth 20000 in
theorem wsL_in_r15_7 : (Cond.selects RX3 yX3_placeForParty yX3_placeForParty) ∈ lw_tbl := List.mem_of_getElem? (i := 544) (by decide +kernel)
set_option maxRecDepth 20000 in
theorem wsL_in_r15_8 : (Cond.code yX3_placeForParty cX3_placeForParty 7 (some .int)) ∈ lw_tbl := List.mem_of_getElem? (i := 545) (by decide +kernel)
set_option maxRecDepth 20000 in
theorem wsL_in_r15_9 : (Cond.methodLink RX3 78 yX3_allInWayOfParty) ∈ lw_tbl := List.mem_of_getElem? (i := 546) (by decide +kernel)
set_option maxRecDepth 20000 in
theorem wsL_in_r15_10 : (Cond.instanceMethod yX3_allInWayOfParty) ∈ lw_tbl := List.mem_of_getElem? (i := 548) (by decide +kernel)
set_option maxRecDepth 20000 in
theorem wsL_in_r15_11 : (Cond.selects RX3 yX3_allInWayOfParty yX3_allInWayOfParty) ∈ lw_tbl := List.mem_of_getElem? (i := 12) (by decide +kernel)
set_option maxRecDepth 20000 in
theorem wsL_in_r15_12 : (Cond.code yX3_allInWayOfParty cX3_allInWayOfParty 6 (some .int)) ∈ lw_tbl := List.mem_of_getElem? (i := 549) (by decide +kernel)
set_option maxRecDepth 20000 in
theorem wsL_in_r15_13 : (Cond.methodLink RX3 82 yX0_areFree) ∈ lw_tbl := List.mem_of_getElem? (i := 550) (by decide +kernel)
set_option maxRecDepth 20000 in
theorem wsL_in_r15_14 : (Cond.instanceMethod yX0_areFree) ∈ lw_tbl := List.mem_of_getElem? (i := 551) (by decide +kernel)
set_option maxRecDepth 20000 in
theorem wsL_in_r15_15 : (Cond.selects RX0 yX0_areFree yX0_areFree) ∈ lw_tbl := List.mem_of_getElem? (i := 552) (by decide +kernel)
set_option maxRecDepth 20000 in
theorem wsL_in_r15_16 : (Cond.code yX0_areFree cX0_areFree 4 (some .boolean)) ∈ lw_tbl := List.mem_of_getElem? (i := 553) (by decide +kernel)
set_option maxRecDepth 20000 in
theorem wsL_in_r15_17 : (Cond.methodLink RL 93 yL_agree) ∈ lw_tbl := List.mem_of_getElem? (i := 555) (by decide +kernel)
set_option maxRecDepth 20000 in
theorem wsL_in_r15_18 : (Cond.static yL_agree) ∈ lw_tbl := List.mem_of_getElem? (i := 556) (by decide +kernel)
set_option maxRecDepth 20000 in
theorem wsL_in_r15_19 : (Cond.code yL_agree cL_agree 12 (some .boolean)) ∈ lw_tbl := List.mem_of_getElem? (i := 557) rfl
set_option maxRecDepth 20000 in
theorem wsL_in_r15_20 : (Cond.methodLink RL 72 yX4_row) ∈ lw_tbl := List.mem_of_getElem? (i := 558) (by decide +kernel)
set_option maxRecDepth 20000 in
theorem wsL_in_r15_21 : (Cond.instanceMethod yX4_row) ∈ lw_tbl := List.mem_of_getElem? (i := 559) (by decide +kernel)
set_option maxRecDepth 20000 in
theorem wsL_in_r15_22 : (Cond.selects RX4 yX4_row yX4_row) ∈ lw_tbl := List.mem_of_getElem? (i := 560) (by decide +kernel)
set_option maxRecDepth 20000 in
theorem wsL_in_r15_23 : (Cond.code yX4_row cX4_row 3 (some .int)) ∈ lw_tbl := List.mem_of_getElem? (i := 561) (by decide +kernel)
theorem wsL_in_r15 : ∀ w ∈ wsL_law0_r15, w ∈ lw_tbl := (List.forall_mem_cons.mpr ⟨wsL_in_r15_0, (List.forall_mem_cons.mpr ⟨wsL_in_r15_1, (List.forall_mem_cons.mpr ⟨wsL_in_r15_2, (List.forall_mem_cons.mpr ⟨wsL_in_r15_3, (List.forall_mem_cons.mpr ⟨wsL_in_r15_4, (List.forall_mem_cons.mpr ⟨wsL_in_r15_5, (List.forall_mem_cons.mpr ⟨wsL_in_r15_6, (List.forall_mem_cons.mpr ⟨wsL_in_r15_7, (List.forall_mem_cons.mpr ⟨wsL_in_r15_8, (List.forall_mem_cons.mpr ⟨wsL_in_r15_9, (List.forall_mem_cons.mpr ⟨wsL_in_r15_10, (List.forall_mem_cons.mpr ⟨wsL_in_r15_11, (List.forall_mem_cons.mpr ⟨wsL_in_r15_12, (List.forall_mem_cons.mpr ⟨wsL_in_r15_13, (List.forall_mem_cons.mpr ⟨wsL_in_r15_14, (List.forall_mem_cons.mpr ⟨wsL_in_r15_15, (List.forall_mem_cons.mpr ⟨wsL_in_r15_16, (List.forall_mem_cons.mpr ⟨wsL_in_r15_17, (List.forall_mem_cons.mpr ⟨wsL_in_r15_18, (List.forall_mem_cons.mpr ⟨wsL_in_r15_19, (List.forall_mem_cons.mpr ⟨wsL_in_r15_20, (List.forall_mem_cons.mpr ⟨wsL_in_r15_21, (List.forall_mem_cons.mpr ⟨wsL_in_r15_22, (List.forall_mem_cons.mpr ⟨wsL_in_r15_23, (fun _ h9 => absurd h9 List.not_mem_nil)⟩)⟩)⟩)⟩)⟩)⟩)⟩)⟩)⟩)⟩)⟩)⟩)⟩)⟩)⟩)⟩)⟩)⟩)⟩)⟩)⟩)⟩)⟩)⟩)
set_option maxRecDepth 20000 in
theorem wsL_in_r16 : ∀ w ∈ wsL_law0_r16, w ∈ lw_tbl := fun w h => (goodIn_r wsL_law0_r16 [562, 564, 13, 565, 55, 566, 567, 568, 569, 570, 571, 572, 574, 14, 575, 98, 100, 576, 577, 578, 579, 580, 581, 582] (by decide +kernel) (by decide +kernel) w h).1
end
section
set_option maxRecDepth 20000 in
theorem wsL_in_r17 : ∀ w ∈ wsL_law0_r17, w ∈ lw_tbl := fun w h => (goodIn_r wsL_law0_r17 [583, 584, 585, 586, 587, 588, 589, 590, 591, 593, 15, 594, 65, 67, 69, 595, 596, 597, 598] (by decide +kernel) (by decide +kernel) w h).1
set_option maxRecDepth 20000 in
theorem wsL_in_wsX40 : ∀ w ∈ wsX40, w ∈ lw_tbl := by decide +kernel
set_option maxRecDepth 20000 in
theorem wsL_in_wsX30 : ∀ w ∈ wsX30, w ∈ lw_tbl := by decide +kernel
set_option maxRecDepth 20000 in
theorem wsL_in_wsX10 : ∀ w ∈ wsX10, w ∈ lw_tbl := by decide +kernel
set_option maxRecDepth 20000 in
theorem wsL_in_wsX20 : ∀ w ∈ wsX20, w ∈ lw_tbl := by decide +kernel
set_option maxRecDepth 20000 in
theorem wsL_in_wsX00 : ∀ w ∈ wsX00, w ∈ lw_tbl := by decide +kernel
set_option maxRecDepth 20000 in
theorem wsL_law_in0 : ∀ w ∈ wsL_law0, w ∈ lw_tbl := fun w h => (List.mem_append.mp h).elim (fun h => (List.mem_append.mp h).elim (fun h => (List.mem_append.mp h).elim (fun h => (List.mem_append.mp h).elim (fun h => (List.mem_append.mp h).elim (fun h => (List.mem_append.mp h).elim (fun h => (List.mem_append.mp h).elim (wsL_in_r1 w) (fun h => (List.mem_append.mp h).elim (wsL_in_r2 w) (fun h => (List.mem_append.mp h).elim (wsL_in_r3 w) (fun h => (List.mem_append.mp h).elim (wsL_in_r4 w) (fun h => (List.mem_append.mp h).elim (wsL_in_r5 w) (fun h => (List.mem_append.mp h).elim (wsL_in_r6 w) (fun h => (List.mem_append.mp h).elim (wsL_in_r7 w) (fun h => (List.mem_append.mp h).elim (wsL_in_r8 w) (fun h => (List.mem_append.mp h).elim (wsL_in_r9 w) (fun h => (List.mem_append.mp h).elim (wsL_in_r10 w) (fun h => (List.mem_append.mp h).elim (wsL_in_r11 w) (fun h => (List.mem_append.mp h).elim (wsL_in_r12 w) (fun h => (List.mem_append.mp h).elim (wsL_in_r13 w) (fun h => (List.mem_append.mp h).elim (wsL_in_r14 w) (fun h => (List.mem_append.mp h).elim (wsL_in_r15 w) (fun h => (List.mem_append.mp h).elim (wsL_in_r16 w) (fun h => wsL_in_r17 w h))))))))))))))))) (wsL_in_wsX40 w)) (wsL_in_wsX30 w)) (wsL_in_wsX10 w)) (wsL_in_wsX20 w)) (wsL_in_wsX00 w)) (fun h => absurd h List.not_mem_nil)
theorem wsL_law_x0 : ∀ w ∈ (vx_atS RX4 42 "java/lang/IllegalArgumentException" ["java/lang/RuntimeException", "java/lang/Exception"]).filter goodWord, w ∈ lw_tbl := by decide +kernel
theorem wsL_law_x1 : ∀ w ∈ (vx_atS RX4 61 "java/lang/IllegalStateException" ["java/lang/RuntimeException", "java/lang/Exception"]).filter goodWord, w ∈ lw_tbl := by decide +kernel
theorem wsL_law_x2 : ∀ w ∈ (vx_atS RX4 267 "java/lang/IndexOutOfBoundsException" ["java/lang/RuntimeException", "java/lang/Exception"]).filter goodWord, w ∈ lw_tbl := by decide +kernel
theorem wsL_law_in : ∀ w ∈ wsL_law, w ∈ lw_tbl := fun w h => (List.mem_append.mp h).elim (fun h => (List.mem_append.mp h).elim (fun h => (List.mem_append.mp h).elim (fun h => wsL_law_in0 w h) (fun h => wsL_law_x0 w h)) (fun h => wsL_law_x1 w h)) (fun h => wsL_law_x2 w h)
theorem inlX0 : ∀ w ∈ wsX00, w ∈ wsL_law := fun _ h => List.mem_append_left _ (List.mem_append_left _ (List.mem_append_left _ (List.mem_append_left _ (List.mem_append_right _ h))))
theorem inX0 : ∀ w ∈ wsX00, w ∈ lw_tbl := fun w h => wsL_law_in w (inlX0 w h)
theorem inlX1 : ∀ w ∈ wsX10, w ∈ wsL_law := fun _ h => List.mem_append_left _ (List.mem_append_left _ (List.mem_append_left _ (List.mem_append_left _ (List.mem_append_left _ (List.mem_append_left _ (List.mem_append_right _ h))))))
theorem inX1 : ∀ w ∈ wsX10, w ∈ lw_tbl := fun w h => wsL_law_in w (inlX1 w h)
theorem inlX2 : ∀ w ∈ wsX20, w ∈ wsL_law := fun _ h => List.mem_append_left _ (List.mem_append_left _ (List.mem_append_left _ (List.mem_append_left _ (List.mem_append_left _ (List.mem_append_right _ h)))))
theorem inX2 : ∀ w ∈ wsX20, w ∈ lw_tbl := fun w h => wsL_law_in w (inlX2 w h)
theorem inlX3 : ∀ w ∈ wsX30, w ∈ wsL_law := fun _ h => List.mem_append_left _ (List.mem_append_left _ (List.mem_append_left _ (List.mem_append_left _ (List.mem_append_left _ (List.mem_append_left _ (List.mem_append_left _ (List.mem_append_right _ h)))))))
theorem inX3 : ∀ w ∈ wsX30, w ∈ lw_tbl := fun w h => wsL_law_in w (inlX3 w h)
theorem inlX4 : ∀ w ∈ wsX40, w ∈ wsL_law := fun _ h => List.mem_append_left _ (List.mem_append_left _ (List.mem_append_left _ (List.mem_append_left _ (List.mem_append_left _ (List.mem_append_left _ (List.mem_append_left _ (List.mem_append_left _ (List.mem_append_right _ h))))))))
theorem inX4 : ∀ w ∈ wsX40, w ∈ lw_tbl := fun w h => wsL_law_in w (inlX4 w h)
theorem inX5 : ∀ w ∈ wsX50, w ∈ lw_tbl := by decide +kernel
theorem inJ6 : ∀ w ∈ wsJ60, w ∈ lw_tbl := by decide +kernel
theorem inJ9 : ∀ w ∈ wsJ90, w ∈ lw_tbl := by decide +kernel
theorem inJ0 : ∀ w ∈ wsJ00, w ∈ lw_tbl := by decide +kernel
theorem inJ10 : ∀ w ∈ wsJ100, w ∈ lw_tbl := by decide +kernel
end
section
theorem dX0_init_0 : decode cX0_init 0 = .ok (.aload_n 0, 1) := by decide +kernel
theorem dX0_init_1 : decode cX0_init 1 = .ok (.invokespecial 3, 3) := by decide +kernel
theorem dX0_init_4 : decode cX0_init 4 = .ok (.aload_n 0, 1) := by decide +kernel
theorem dX0_init_5 : decode cX0_init 5 = .ok (.bipush 10, 2) := by decide +kernel
theorem dX0_init_7 : decode cX0_init 7 = .ok (.newarray .int, 2) := by decide +kernel
theorem dX0_init_9 : decode cX0_init 9 = .ok (.putfield 9, 3) := by decide +kernel
theorem dX0_init_12 : decode cX0_init 12 = .ok (.aload_n 0, 1) := by decide +kernel
theorem dX0_init_13 : decode cX0_init 13 = .ok (.bipush 10, 2) := by decide +kernel
theorem dX0_init_15 : decode cX0_init 15 = .ok (.newarray .int, 2) := by decide +kernel
theorem dX0_init_17 : decode cX0_init 17 = .ok (.putfield 15, 3) := by decide +kernel
theorem dX0_init_20 : decode cX0_init 20 = .ok (.aload_n 0, 1) := by decide +kernel
theorem dX0_init_21 : decode cX0_init 21 = .ok (.bipush 10, 2) := by decide +kernel
theorem dX0_init_23 : decode cX0_init 23 = .ok (.newarray .int, 2) := by decide +kernel
theorem dX0_init_25 : decode cX0_init 25 = .ok (.putfield 18, 3) := by decide +kernel
theorem dX0_init_28 : decode cX0_init 28 = .ok (.aload_n 0, 1) := by decide +kernel
theorem dX0_init_29 : decode cX0_init 29 = .ok (.bipush 10, 2) := by decide +kernel
theorem dX0_init_31 : decode cX0_init 31 = .ok (.newarray .int, 2) := by decide +kernel
theorem dX0_init_33 : decode cX0_init 33 = .ok (.putfield 21, 3) := by decide +kernel
theorem dX0_init_36 : decode cX0_init 36 = .ok (.aload_n 0, 1) := by decide +kernel
theorem dX0_init_37 : decode cX0_init 37 = .ok (.iconst 4, 1) := by decide +kernel
theorem dX0_init_38 : decode cX0_init 38 = .ok (.newarray .int, 2) := by decide +kernel
theorem dX0_init_40 : decode cX0_init 40 = .ok (.putfield 24, 3) := by decide +kernel
theorem dX0_init_43 : decode cX0_init 43 = .ok (.aload_n 0, 1) := by decide +kernel
theorem dX0_init_44 : decode cX0_init 44 = .ok (.iconst 4, 1) := by decide +kernel
theorem dX0_init_45 : decode cX0_init 45 = .ok (.newarray .int, 2) := by decide +kernel
theorem dX0_init_47 : decode cX0_init 47 = .ok (.putfield 27, 3) := by decide +kernel
theorem dX0_init_50 : decode cX0_init 50 = .ok (.aload_n 0, 1) := by decide +kernel
theorem dX0_init_51 : decode cX0_init 51 = .ok (.iconst 4, 1) := by decide +kernel
theorem dX0_init_52 : decode cX0_init 52 = .ok (.newarray .int, 2) := by decide +kernel
theorem dX0_init_54 : decode cX0_init 54 = .ok (.putfield 30, 3) := by decide +kernel
theorem dX0_init_57 : decode cX0_init 57 = .ok (.aload_n 0, 1) := by decide +kernel
theorem dX0_init_58 : decode cX0_init 58 = .ok (.iconst 3, 1) := by decide +kernel
theorem dX0_init_59 : decode cX0_init 59 = .ok (.newarray .int, 2) := by decide +kernel
theorem dX0_init_61 : decode cX0_init 61 = .ok (.dup, 1) := by decide +kernel
theorem dX0_init_62 : decode cX0_init 62 = .ok (.iconst 0, 1) := by decide +kernel
theorem dX0_init_63 : decode cX0_init 63 = .ok (.bipush 100, 2) := by decide +kernel
theorem dX0_init_65 : decode cX0_init 65 = .ok (.iastore, 1) := by decide +kernel
theorem dX0_init_66 : decode cX0_init 66 = .ok (.dup, 1) := by decide +kernel
theorem dX0_init_67 : decode cX0_init 67 = .ok (.iconst 1, 1) := by decide +kernel
theorem dX0_init_68 : decode cX0_init 68 = .ok (.bipush 120, 2) := by decide +kernel
theorem dX0_init_70 : decode cX0_init 70 = .ok (.iastore, 1) := by decide +kernel
theorem dX0_init_71 : decode cX0_init 71 = .ok (.dup, 1) := by decide +kernel
theorem dX0_init_72 : decode cX0_init 72 = .ok (.iconst 2, 1) := by decide +kernel
theorem dX0_init_73 : decode cX0_init 73 = .ok (.bipush 12, 2) := by decide +kernel
theorem dX0_init_75 : decode cX0_init 75 = .ok (.iastore, 1) := by decide +kernel
theorem dX0_init_76 : decode cX0_init 76 = .ok (.putfield 33, 3) := by decide +kernel
theorem dX0_init_79 : decode cX0_init 79 = .ok (.return_, 1) := by decide +kernel
theorem dX0_copyFrom_0 : decode cX0_copyFrom 0 = .ok (.aload_n 0, 1) := by decide +kernel
theorem dX0_copyFrom_1 : decode cX0_copyFrom 1 = .ok (.aload_n 1, 1) := by decide +kernel
theorem dX0_copyFrom_2 : decode cX0_copyFrom 2 = .ok (.getfield 36, 3) := by decide +kernel
theorem dX0_copyFrom_5 : decode cX0_copyFrom 5 = .ok (.putfield 36, 3) := by decide +kernel
theorem dX0_copyFrom_8 : decode cX0_copyFrom 8 = .ok (.aload_n 1, 1) := by decide +kernel
theorem dX0_copyFrom_9 : decode cX0_copyFrom 9 = .ok (.getfield 9, 3) := by decide +kernel
theorem dX0_copyFrom_12 : decode cX0_copyFrom 12 = .ok (.iconst 0, 1) := by decide +kernel
theorem dX0_copyFrom_13 : decode cX0_copyFrom 13 = .ok (.aload_n 0, 1) := by decide +kernel
theorem dX0_copyFrom_14 : decode cX0_copyFrom 14 = .ok (.getfield 9, 3) := by decide +kernel
theorem dX0_copyFrom_17 : decode cX0_copyFrom 17 = .ok (.iconst 0, 1) := by decide +kernel
theorem dX0_copyFrom_18 : decode cX0_copyFrom 18 = .ok (.bipush 10, 2) := by decide +kernel
theorem dX0_copyFrom_20 : decode cX0_copyFrom 20 = .ok (.invokestatic 40, 3) := by decide +kernel
theorem dX0_copyFrom_23 : decode cX0_copyFrom 23 = .ok (.aload_n 1, 1) := by decide +kernel
theorem dX0_copyFrom_24 : decode cX0_copyFrom 24 = .ok (.getfield 15, 3) := by decide +kernel
theorem dX0_copyFrom_27 : decode cX0_copyFrom 27 = .ok (.iconst 0, 1) := by decide +kernel
theorem dX0_copyFrom_28 : decode cX0_copyFrom 28 = .ok (.aload_n 0, 1) := by decide +kernel
theorem dX0_copyFrom_29 : decode cX0_copyFrom 29 = .ok (.getfield 15, 3) := by decide +kernel
theorem dX0_copyFrom_32 : decode cX0_copyFrom 32 = .ok (.iconst 0, 1) := by decide +kernel
theorem dX0_copyFrom_33 : decode cX0_copyFrom 33 = .ok (.bipush 10, 2) := by decide +kernel
theorem dX0_copyFrom_35 : decode cX0_copyFrom 35 = .ok (.invokestatic 40, 3) := by decide +kernel
theorem dX0_copyFrom_38 : decode cX0_copyFrom 38 = .ok (.aload_n 1, 1) := by decide +kernel
theorem dX0_copyFrom_39 : decode cX0_copyFrom 39 = .ok (.getfield 18, 3) := by decide +kernel
theorem dX0_copyFrom_42 : decode cX0_copyFrom 42 = .ok (.iconst 0, 1) := by decide +kernel
theorem dX0_copyFrom_43 : decode cX0_copyFrom 43 = .ok (.aload_n 0, 1) := by decide +kernel
theorem dX0_copyFrom_44 : decode cX0_copyFrom 44 = .ok (.getfield 18, 3) := by decide +kernel
theorem dX0_copyFrom_47 : decode cX0_copyFrom 47 = .ok (.iconst 0, 1) := by decide +kernel
theorem dX0_copyFrom_48 : decode cX0_copyFrom 48 = .ok (.bipush 10, 2) := by decide +kernel
theorem dX0_copyFrom_50 : decode cX0_copyFrom 50 = .ok (.invokestatic 40, 3) := by decide +kernel
theorem dX0_copyFrom_53 : decode cX0_copyFrom 53 = .ok (.aload_n 1, 1) := by decide +kernel
theorem dX0_copyFrom_54 : decode cX0_copyFrom 54 = .ok (.getfield 21, 3) := by decide +kernel
theorem dX0_copyFrom_57 : decode cX0_copyFrom 57 = .ok (.iconst 0, 1) := by decide +kernel
theorem dX0_copyFrom_58 : decode cX0_copyFrom 58 = .ok (.aload_n 0, 1) := by decide +kernel
theorem dX0_copyFrom_59 : decode cX0_copyFrom 59 = .ok (.getfield 21, 3) := by decide +kernel
theorem dX0_copyFrom_62 : decode cX0_copyFrom 62 = .ok (.iconst 0, 1) := by decide +kernel
theorem dX0_copyFrom_63 : decode cX0_copyFrom 63 = .ok (.bipush 10, 2) := by decide +kernel
theorem dX0_copyFrom_65 : decode cX0_copyFrom 65 = .ok (.invokestatic 40, 3) := by decide +kernel
theorem dX0_copyFrom_68 : decode cX0_copyFrom 68 = .ok (.aload_n 0, 1) := by decide +kernel
theorem dX0_copyFrom_69 : decode cX0_copyFrom 69 = .ok (.aload_n 1, 1) := by decide +kernel
theorem dX0_copyFrom_70 : decode cX0_copyFrom 70 = .ok (.getfield 46, 3) := by decide +kernel
theorem dX0_copyFrom_73 : decode cX0_copyFrom 73 = .ok (.putfield 46, 3) := by decide +kernel
theorem dX0_copyFrom_76 : decode cX0_copyFrom 76 = .ok (.aload_n 1, 1) := by decide +kernel
theorem dX0_copyFrom_77 : decode cX0_copyFrom 77 = .ok (.getfield 24, 3) := by decide +kernel
theorem dX0_copyFrom_80 : decode cX0_copyFrom 80 = .ok (.iconst 0, 1) := by decide +kernel
theorem dX0_copyFrom_81 : decode cX0_copyFrom 81 = .ok (.aload_n 0, 1) := by decide +kernel
theorem dX0_copyFrom_82 : decode cX0_copyFrom 82 = .ok (.getfield 24, 3) := by decide +kernel
theorem dX0_copyFrom_85 : decode cX0_copyFrom 85 = .ok (.iconst 0, 1) := by decide +kernel
theorem dX0_copyFrom_86 : decode cX0_copyFrom 86 = .ok (.iconst 4, 1) := by decide +kernel
theorem dX0_copyFrom_87 : decode cX0_copyFrom 87 = .ok (.invokestatic 40, 3) := by decide +kernel
theorem dX0_copyFrom_90 : decode cX0_copyFrom 90 = .ok (.aload_n 1, 1) := by decide +kernel
theorem dX0_copyFrom_91 : decode cX0_copyFrom 91 = .ok (.getfield 27, 3) := by decide +kernel
theorem dX0_copyFrom_94 : decode cX0_copyFrom 94 = .ok (.iconst 0, 1) := by decide +kernel
theorem dX0_copyFrom_95 : decode cX0_copyFrom 95 = .ok (.aload_n 0, 1) := by decide +kernel
theorem dX0_copyFrom_96 : decode cX0_copyFrom 96 = .ok (.getfield 27, 3) := by decide +kernel
theorem dX0_copyFrom_99 : decode cX0_copyFrom 99 = .ok (.iconst 0, 1) := by decide +kernel
theorem dX0_copyFrom_100 : decode cX0_copyFrom 100 = .ok (.iconst 4, 1) := by decide +kernel
theorem dX0_copyFrom_101 : decode cX0_copyFrom 101 = .ok (.invokestatic 40, 3) := by decide +kernel
theorem dX0_copyFrom_104 : decode cX0_copyFrom 104 = .ok (.aload_n 1, 1) := by decide +kernel
theorem dX0_copyFrom_105 : decode cX0_copyFrom 105 = .ok (.getfield 30, 3) := by decide +kernel
theorem dX0_copyFrom_108 : decode cX0_copyFrom 108 = .ok (.iconst 0, 1) := by decide +kernel
theorem dX0_copyFrom_109 : decode cX0_copyFrom 109 = .ok (.aload_n 0, 1) := by decide +kernel
theorem dX0_copyFrom_110 : decode cX0_copyFrom 110 = .ok (.getfield 30, 3) := by decide +kernel
theorem dX0_copyFrom_113 : decode cX0_copyFrom 113 = .ok (.iconst 0, 1) := by decide +kernel
theorem dX0_copyFrom_114 : decode cX0_copyFrom 114 = .ok (.iconst 4, 1) := by decide +kernel
theorem dX0_copyFrom_115 : decode cX0_copyFrom 115 = .ok (.invokestatic 40, 3) := by decide +kernel
theorem dX0_copyFrom_118 : decode cX0_copyFrom 118 = .ok (.aload_n 1, 1) := by decide +kernel
theorem dX0_copyFrom_119 : decode cX0_copyFrom 119 = .ok (.getfield 33, 3) := by decide +kernel
theorem dX0_copyFrom_122 : decode cX0_copyFrom 122 = .ok (.iconst 0, 1) := by decide +kernel
theorem dX0_copyFrom_123 : decode cX0_copyFrom 123 = .ok (.aload_n 0, 1) := by decide +kernel
theorem dX0_copyFrom_124 : decode cX0_copyFrom 124 = .ok (.getfield 33, 3) := by decide +kernel
theorem dX0_copyFrom_127 : decode cX0_copyFrom 127 = .ok (.iconst 0, 1) := by decide +kernel
theorem dX0_copyFrom_128 : decode cX0_copyFrom 128 = .ok (.iconst 3, 1) := by decide +kernel
theorem dX0_copyFrom_129 : decode cX0_copyFrom 129 = .ok (.invokestatic 40, 3) := by decide +kernel
theorem dX0_copyFrom_132 : decode cX0_copyFrom 132 = .ok (.return_, 1) := by decide +kernel
theorem dX0_hasRoomForRow_0 : decode cX0_hasRoomForRow 0 = .ok (.iconst 0, 1) := by decide +kernel
theorem dX0_hasRoomForRow_1 : decode cX0_hasRoomForRow 1 = .ok (.istore_n 2, 1) := by decide +kernel
theorem dX0_hasRoomForRow_2 : decode cX0_hasRoomForRow 2 = .ok (.iload_n 2, 1) := by decide +kernel
theorem dX0_hasRoomForRow_3 : decode cX0_hasRoomForRow 3 = .ok (.aload_n 0, 1) := by decide +kernel
theorem dX0_hasRoomForRow_4 : decode cX0_hasRoomForRow 4 = .ok (.getfield 36, 3) := by decide +kernel
theorem dX0_hasRoomForRow_7 : decode cX0_hasRoomForRow 7 = .ok (.if_icmp .ge 21, 3) := by decide +kernel
theorem dX0_hasRoomForRow_10 : decode cX0_hasRoomForRow 10 = .ok (.aload_n 0, 1) := by decide +kernel
theorem dX0_hasRoomForRow_11 : decode cX0_hasRoomForRow 11 = .ok (.getfield 9, 3) := by decide +kernel
theorem dX0_hasRoomForRow_14 : decode cX0_hasRoomForRow 14 = .ok (.iload_n 2, 1) := by decide +kernel
theorem dX0_hasRoomForRow_15 : decode cX0_hasRoomForRow 15 = .ok (.iaload, 1) := by decide +kernel
theorem dX0_hasRoomForRow_16 : decode cX0_hasRoomForRow 16 = .ok (.iload_n 1, 1) := by decide +kernel
theorem dX0_hasRoomForRow_17 : decode cX0_hasRoomForRow 17 = .ok (.if_icmp .ne 5, 3) := by decide +kernel
theorem dX0_hasRoomForRow_20 : decode cX0_hasRoomForRow 20 = .ok (.iconst 0, 1) := by decide +kernel
theorem dX0_hasRoomForRow_21 : decode cX0_hasRoomForRow 21 = .ok (.ireturn, 1) := by decide +kernel
theorem dX0_hasRoomForRow_22 : decode cX0_hasRoomForRow 22 = .ok (.iinc 2 1, 3) := by decide +kernel
theorem dX0_hasRoomForRow_25 : decode cX0_hasRoomForRow 25 = .ok (.goto (-23), 3) := by decide +kernel
theorem dX0_hasRoomForRow_28 : decode cX0_hasRoomForRow 28 = .ok (.aload_n 0, 1) := by decide +kernel
theorem dX0_hasRoomForRow_29 : decode cX0_hasRoomForRow 29 = .ok (.getfield 36, 3) := by decide +kernel
theorem dX0_hasRoomForRow_32 : decode cX0_hasRoomForRow 32 = .ok (.bipush 10, 2) := by decide +kernel
theorem dX0_hasRoomForRow_34 : decode cX0_hasRoomForRow 34 = .ok (.if_icmp .ge 7, 3) := by decide +kernel
theorem dX0_hasRoomForRow_37 : decode cX0_hasRoomForRow 37 = .ok (.iconst 1, 1) := by decide +kernel
theorem dX0_hasRoomForRow_38 : decode cX0_hasRoomForRow 38 = .ok (.goto 4, 3) := by decide +kernel
theorem dX0_hasRoomForRow_41 : decode cX0_hasRoomForRow 41 = .ok (.iconst 0, 1) := by decide +kernel
theorem dX0_hasRoomForRow_42 : decode cX0_hasRoomForRow 42 = .ok (.ireturn, 1) := by decide +kernel
set_option maxRecDepth 20000 in
theorem ggX0_insertRow_X0_moveRow : GoodIn wsX0_insertRow wsX0_moveRow := goodIn_r _ [10, 2, 3, 4, 5, 11, 12, 13, 14, 15, 16, 17, 18, 19, 20] (by decide +kernel) (by decide +kernel)
set_option maxRecDepth 20000 in
theorem gX0_insertRow_X0_moveRow : GoodIn wsX0_insertRow (wsV RX0 49 RX0 yX0_moveRow wsX0_moveRow) := goodIn_app (goodIn_of _ (by decide +kernel)) ggX0_insertRow_X0_moveRow
theorem dX0_insertRow_0 : decode cX0_insertRow 0 = .ok (.aload_n 0, 1) := by decide +kernel
theorem dX0_insertRow_1 : decode cX0_insertRow 1 = .ok (.getfield 36, 3) := by decide +kernel
theorem dX0_insertRow_4 : decode cX0_insertRow 4 = .ok (.istore 4, 2) := by decide +kernel
theorem dX0_insertRow_6 : decode cX0_insertRow 6 = .ok (.iload 4, 2) := by decide +kernel
theorem dX0_insertRow_8 : decode cX0_insertRow 8 = .ok (.ifCond .le 32, 3) := by decide +kernel
theorem dX0_insertRow_11 : decode cX0_insertRow 11 = .ok (.aload_n 0, 1) := by decide +kernel
theorem dX0_insertRow_12 : decode cX0_insertRow 12 = .ok (.getfield 9, 3) := by decide +kernel
theorem dX0_insertRow_15 : decode cX0_insertRow 15 = .ok (.iload 4, 2) := by decide +kernel
theorem dX0_insertRow_17 : decode cX0_insertRow 17 = .ok (.iconst 1, 1) := by decide +kernel
theorem dX0_insertRow_18 : decode cX0_insertRow 18 = .ok (.isub, 1) := by decide +kernel
theorem dX0_insertRow_19 : decode cX0_insertRow 19 = .ok (.iaload, 1) := by decide +kernel
theorem dX0_insertRow_20 : decode cX0_insertRow 20 = .ok (.iload_n 1, 1) := by decide +kernel
theorem dX0_insertRow_21 : decode cX0_insertRow 21 = .ok (.if_icmp .le 19, 3) := by decide +kernel
theorem dX0_insertRow_24 : decode cX0_insertRow 24 = .ok (.aload_n 0, 1) := by decide +kernel
theorem dX0_insertRow_25 : decode cX0_insertRow 25 = .ok (.iload 4, 2) := by decide +kernel
theorem dX0_insertRow_27 : decode cX0_insertRow 27 = .ok (.iconst 1, 1) := by decide +kernel
theorem dX0_insertRow_28 : decode cX0_insertRow 28 = .ok (.isub, 1) := by decide +kernel
theorem dX0_insertRow_29 : decode cX0_insertRow 29 = .ok (.iload 4, 2) := by decide +kernel
theorem dX0_insertRow_31 : decode cX0_insertRow 31 = .ok (.invokevirtual 49, 3) := by decide +kernel
theorem dX0_insertRow_34 : decode cX0_insertRow 34 = .ok (.iinc 4 (-1), 3) := by decide +kernel
theorem dX0_insertRow_37 : decode cX0_insertRow 37 = .ok (.goto (-31), 3) := by decide +kernel
theorem dX0_insertRow_40 : decode cX0_insertRow 40 = .ok (.aload_n 0, 1) := by decide +kernel
theorem dX0_insertRow_41 : decode cX0_insertRow 41 = .ok (.getfield 9, 3) := by decide +kernel
theorem dX0_insertRow_44 : decode cX0_insertRow 44 = .ok (.iload 4, 2) := by decide +kernel
theorem dX0_insertRow_46 : decode cX0_insertRow 46 = .ok (.iload_n 1, 1) := by decide +kernel
theorem dX0_insertRow_47 : decode cX0_insertRow 47 = .ok (.iastore, 1) := by decide +kernel
theorem dX0_insertRow_48 : decode cX0_insertRow 48 = .ok (.aload_n 0, 1) := by decide +kernel
theorem dX0_insertRow_49 : decode cX0_insertRow 49 = .ok (.getfield 15, 3) := by decide +kernel
theorem dX0_insertRow_52 : decode cX0_insertRow 52 = .ok (.iload 4, 2) := by decide +kernel
theorem dX0_insertRow_54 : decode cX0_insertRow 54 = .ok (.iload_n 2, 1) := by decide +kernel
theorem dX0_insertRow_55 : decode cX0_insertRow 55 = .ok (.iastore, 1) := by decide +kernel
theorem dX0_insertRow_56 : decode cX0_insertRow 56 = .ok (.aload_n 0, 1) := by decide +kernel
theorem dX0_insertRow_57 : decode cX0_insertRow 57 = .ok (.getfield 18, 3) := by decide +kernel
theorem dX0_insertRow_60 : decode cX0_insertRow 60 = .ok (.iload 4, 2) := by decide +kernel
theorem dX0_insertRow_62 : decode cX0_insertRow 62 = .ok (.iload_n 3, 1) := by decide +kernel
theorem dX0_insertRow_63 : decode cX0_insertRow 63 = .ok (.iastore, 1) := by decide +kernel
theorem dX0_insertRow_64 : decode cX0_insertRow 64 = .ok (.aload_n 0, 1) := by decide +kernel
theorem dX0_insertRow_65 : decode cX0_insertRow 65 = .ok (.getfield 21, 3) := by decide +kernel
theorem dX0_insertRow_68 : decode cX0_insertRow 68 = .ok (.iload 4, 2) := by decide +kernel
theorem dX0_insertRow_70 : decode cX0_insertRow 70 = .ok (.iconst 0, 1) := by decide +kernel
theorem dX0_insertRow_71 : decode cX0_insertRow 71 = .ok (.iastore, 1) := by decide +kernel
theorem dX0_insertRow_72 : decode cX0_insertRow 72 = .ok (.aload_n 0, 1) := by decide +kernel
theorem dX0_insertRow_73 : decode cX0_insertRow 73 = .ok (.dup, 1) := by decide +kernel
theorem dX0_insertRow_74 : decode cX0_insertRow 74 = .ok (.getfield 36, 3) := by decide +kernel
theorem dX0_insertRow_77 : decode cX0_insertRow 77 = .ok (.iconst 1, 1) := by decide +kernel
theorem dX0_insertRow_78 : decode cX0_insertRow 78 = .ok (.iadd, 1) := by decide +kernel
theorem dX0_insertRow_79 : decode cX0_insertRow 79 = .ok (.putfield 36, 3) := by decide +kernel
theorem dX0_insertRow_82 : decode cX0_insertRow 82 = .ok (.iload 4, 2) := by decide +kernel
theorem dX0_insertRow_84 : decode cX0_insertRow 84 = .ok (.ireturn, 1) := by decide +kernel
set_option maxRecDepth 20000 in
theorem ggX0_deleteRow_X0_moveRow : GoodIn wsX0_deleteRow wsX0_moveRow := goodIn_r _ [6, 7, 8, 9, 10, 11, 12, 13, 14, 15, 16, 17, 18, 19, 20] (by decide +kernel) (by decide +kernel)
set_option maxRecDepth 20000 in
theorem gX0_deleteRow_X0_moveRow : GoodIn wsX0_deleteRow (wsV RX0 49 RX0 yX0_moveRow wsX0_moveRow) := goodIn_app (goodIn_of _ (by decide +kernel)) ggX0_deleteRow_X0_moveRow
theorem dX0_deleteRow_0 : decode cX0_deleteRow 0 = .ok (.iload_n 1, 1) := by decide +kernel
theorem dX0_deleteRow_1 : decode cX0_deleteRow 1 = .ok (.iconst 1, 1) := by decide +kernel
theorem dX0_deleteRow_2 : decode cX0_deleteRow 2 = .ok (.iadd, 1) := by decide +kernel
theorem dX0_deleteRow_3 : decode cX0_deleteRow 3 = .ok (.istore_n 2, 1) := by decide +kernel
theorem dX0_deleteRow_4 : decode cX0_deleteRow 4 = .ok (.iload_n 2, 1) := by decide +kernel
theorem dX0_deleteRow_5 : decode cX0_deleteRow 5 = .ok (.aload_n 0, 1) := by decide +kernel
theorem dX0_deleteRow_6 : decode cX0_deleteRow 6 = .ok (.getfield 36, 3) := by decide +kernel
theorem dX0_deleteRow_9 : decode cX0_deleteRow 9 = .ok (.if_icmp .ge 17, 3) := by decide +kernel
theorem dX0_deleteRow_12 : decode cX0_deleteRow 12 = .ok (.aload_n 0, 1) := by decide +kernel
theorem dX0_deleteRow_13 : decode cX0_deleteRow 13 = .ok (.iload_n 2, 1) := by decide +kernel
theorem dX0_deleteRow_14 : decode cX0_deleteRow 14 = .ok (.iload_n 2, 1) := by decide +kernel
theorem dX0_deleteRow_15 : decode cX0_deleteRow 15 = .ok (.iconst 1, 1) := by decide +kernel
theorem dX0_deleteRow_16 : decode cX0_deleteRow 16 = .ok (.isub, 1) := by decide +kernel
theorem dX0_deleteRow_17 : decode cX0_deleteRow 17 = .ok (.invokevirtual 49, 3) := by decide +kernel
theorem dX0_deleteRow_20 : decode cX0_deleteRow 20 = .ok (.iinc 2 1, 3) := by decide +kernel
theorem dX0_deleteRow_23 : decode cX0_deleteRow 23 = .ok (.goto (-19), 3) := by decide +kernel
theorem dX0_deleteRow_26 : decode cX0_deleteRow 26 = .ok (.aload_n 0, 1) := by decide +kernel
theorem dX0_deleteRow_27 : decode cX0_deleteRow 27 = .ok (.dup, 1) := by decide +kernel
theorem dX0_deleteRow_28 : decode cX0_deleteRow 28 = .ok (.getfield 36, 3) := by decide +kernel
theorem dX0_deleteRow_31 : decode cX0_deleteRow 31 = .ok (.iconst 1, 1) := by decide +kernel
theorem dX0_deleteRow_32 : decode cX0_deleteRow 32 = .ok (.isub, 1) := by decide +kernel
theorem dX0_deleteRow_33 : decode cX0_deleteRow 33 = .ok (.putfield 36, 3) := by decide +kernel
theorem dX0_deleteRow_36 : decode cX0_deleteRow 36 = .ok (.return_, 1) := by decide +kernel
theorem dX0_moveRow_0 : decode cX0_moveRow 0 = .ok (.aload_n 0, 1) := by decide +kernel
theorem dX0_moveRow_1 : decode cX0_moveRow 1 = .ok (.getfield 9, 3) := by decide +kernel
theorem dX0_moveRow_4 : decode cX0_moveRow 4 = .ok (.iload_n 2, 1) := by decide +kernel
theorem dX0_moveRow_5 : decode cX0_moveRow 5 = .ok (.aload_n 0, 1) := by decide +kernel
theorem dX0_moveRow_6 : decode cX0_moveRow 6 = .ok (.getfield 9, 3) := by decide +kernel
theorem dX0_moveRow_9 : decode cX0_moveRow 9 = .ok (.iload_n 1, 1) := by decide +kernel
theorem dX0_moveRow_10 : decode cX0_moveRow 10 = .ok (.iaload, 1) := by decide +kernel
theorem dX0_moveRow_11 : decode cX0_moveRow 11 = .ok (.iastore, 1) := by decide +kernel
theorem dX0_moveRow_12 : decode cX0_moveRow 12 = .ok (.aload_n 0, 1) := by decide +kernel
theorem dX0_moveRow_13 : decode cX0_moveRow 13 = .ok (.getfield 15, 3) := by decide +kernel
theorem dX0_moveRow_16 : decode cX0_moveRow 16 = .ok (.iload_n 2, 1) := by decide +kernel
theorem dX0_moveRow_17 : decode cX0_moveRow 17 = .ok (.aload_n 0, 1) := by decide +kernel
theorem dX0_moveRow_18 : decode cX0_moveRow 18 = .ok (.getfield 15, 3) := by decide +kernel
theorem dX0_moveRow_21 : decode cX0_moveRow 21 = .ok (.iload_n 1, 1) := by decide +kernel
theorem dX0_moveRow_22 : decode cX0_moveRow 22 = .ok (.iaload, 1) := by decide +kernel
theorem dX0_moveRow_23 : decode cX0_moveRow 23 = .ok (.iastore, 1) := by decide +kernel
theorem dX0_moveRow_24 : decode cX0_moveRow 24 = .ok (.aload_n 0, 1) := by decide +kernel
theorem dX0_moveRow_25 : decode cX0_moveRow 25 = .ok (.getfield 18, 3) := by decide +kernel
theorem dX0_moveRow_28 : decode cX0_moveRow 28 = .ok (.iload_n 2, 1) := by decide +kernel
theorem dX0_moveRow_29 : decode cX0_moveRow 29 = .ok (.aload_n 0, 1) := by decide +kernel
theorem dX0_moveRow_30 : decode cX0_moveRow 30 = .ok (.getfield 18, 3) := by decide +kernel
theorem dX0_moveRow_33 : decode cX0_moveRow 33 = .ok (.iload_n 1, 1) := by decide +kernel
theorem dX0_moveRow_34 : decode cX0_moveRow 34 = .ok (.iaload, 1) := by decide +kernel
theorem dX0_moveRow_35 : decode cX0_moveRow 35 = .ok (.iastore, 1) := by decide +kernel
theorem dX0_moveRow_36 : decode cX0_moveRow 36 = .ok (.aload_n 0, 1) := by decide +kernel
theorem dX0_moveRow_37 : decode cX0_moveRow 37 = .ok (.getfield 21, 3) := by decide +kernel
theorem dX0_moveRow_40 : decode cX0_moveRow 40 = .ok (.iload_n 2, 1) := by decide +kernel
theorem dX0_moveRow_41 : decode cX0_moveRow 41 = .ok (.aload_n 0, 1) := by decide +kernel
theorem dX0_moveRow_42 : decode cX0_moveRow 42 = .ok (.getfield 21, 3) := by decide +kernel
theorem dX0_moveRow_45 : decode cX0_moveRow 45 = .ok (.iload_n 1, 1) := by decide +kernel
theorem dX0_moveRow_46 : decode cX0_moveRow 46 = .ok (.iaload, 1) := by decide +kernel
theorem dX0_moveRow_47 : decode cX0_moveRow 47 = .ok (.iastore, 1) := by decide +kernel
theorem dX0_moveRow_48 : decode cX0_moveRow 48 = .ok (.return_, 1) := by decide +kernel
theorem dX0_insertColumn_0 : decode cX0_insertColumn 0 = .ok (.aload_n 0, 1) := by decide +kernel
theorem dX0_insertColumn_1 : decode cX0_insertColumn 1 = .ok (.getfield 24, 3) := by decide +kernel
theorem dX0_insertColumn_4 : decode cX0_insertColumn 4 = .ok (.aload_n 0, 1) := by decide +kernel
theorem dX0_insertColumn_5 : decode cX0_insertColumn 5 = .ok (.getfield 46, 3) := by decide +kernel
theorem dX0_insertColumn_8 : decode cX0_insertColumn 8 = .ok (.iload_n 1, 1) := by decide +kernel
theorem dX0_insertColumn_9 : decode cX0_insertColumn 9 = .ok (.iastore, 1) := by decide +kernel
theorem dX0_insertColumn_10 : decode cX0_insertColumn 10 = .ok (.aload_n 0, 1) := by decide +kernel
theorem dX0_insertColumn_11 : decode cX0_insertColumn 11 = .ok (.getfield 27, 3) := by decide +kernel
theorem dX0_insertColumn_14 : decode cX0_insertColumn 14 = .ok (.aload_n 0, 1) := by decide +kernel
theorem dX0_insertColumn_15 : decode cX0_insertColumn 15 = .ok (.getfield 46, 3) := by decide +kernel
theorem dX0_insertColumn_18 : decode cX0_insertColumn 18 = .ok (.iload_n 2, 1) := by decide +kernel
theorem dX0_insertColumn_19 : decode cX0_insertColumn 19 = .ok (.iastore, 1) := by decide +kernel
theorem dX0_insertColumn_20 : decode cX0_insertColumn 20 = .ok (.aload_n 0, 1) := by decide +kernel
theorem dX0_insertColumn_21 : decode cX0_insertColumn 21 = .ok (.getfield 30, 3) := by decide +kernel
theorem dX0_insertColumn_24 : decode cX0_insertColumn 24 = .ok (.aload_n 0, 1) := by decide +kernel
theorem dX0_insertColumn_25 : decode cX0_insertColumn 25 = .ok (.getfield 46, 3) := by decide +kernel
theorem dX0_insertColumn_28 : decode cX0_insertColumn 28 = .ok (.iload_n 3, 1) := by decide +kernel
theorem dX0_insertColumn_29 : decode cX0_insertColumn 29 = .ok (.iastore, 1) := by decide +kernel
theorem dX0_insertColumn_30 : decode cX0_insertColumn 30 = .ok (.aload_n 0, 1) := by decide +kernel
theorem dX0_insertColumn_31 : decode cX0_insertColumn 31 = .ok (.dup, 1) := by decide +kernel
theorem dX0_insertColumn_32 : decode cX0_insertColumn 32 = .ok (.getfield 46, 3) := by decide +kernel
theorem dX0_insertColumn_35 : decode cX0_insertColumn 35 = .ok (.iconst 1, 1) := by decide +kernel
theorem dX0_insertColumn_36 : decode cX0_insertColumn 36 = .ok (.iadd, 1) := by decide +kernel
theorem dX0_insertColumn_37 : decode cX0_insertColumn 37 = .ok (.putfield 46, 3) := by decide +kernel
theorem dX0_insertColumn_40 : decode cX0_insertColumn 40 = .ok (.aload_n 0, 1) := by decide +kernel
theorem dX0_insertColumn_41 : decode cX0_insertColumn 41 = .ok (.getfield 46, 3) := by decide +kernel
theorem dX0_insertColumn_44 : decode cX0_insertColumn 44 = .ok (.iconst 1, 1) := by decide +kernel
theorem dX0_insertColumn_45 : decode cX0_insertColumn 45 = .ok (.isub, 1) := by decide +kernel
theorem dX0_insertColumn_46 : decode cX0_insertColumn 46 = .ok (.ireturn, 1) := by decide +kernel
theorem dX0_deleteColumn_0 : decode cX0_deleteColumn 0 = .ok (.iload_n 1, 1) := by decide +kernel
theorem dX0_deleteColumn_1 : decode cX0_deleteColumn 1 = .ok (.iconst 1, 1) := by decide +kernel
theorem dX0_deleteColumn_2 : decode cX0_deleteColumn 2 = .ok (.iadd, 1) := by decide +kernel
theorem dX0_deleteColumn_3 : decode cX0_deleteColumn 3 = .ok (.istore_n 2, 1) := by decide +kernel
theorem dX0_deleteColumn_4 : decode cX0_deleteColumn 4 = .ok (.iload_n 2, 1) := by decide +kernel
theorem dX0_deleteColumn_5 : decode cX0_deleteColumn 5 = .ok (.aload_n 0, 1) := by decide +kernel
theorem dX0_deleteColumn_6 : decode cX0_deleteColumn 6 = .ok (.getfield 46, 3) := by decide +kernel
theorem dX0_deleteColumn_9 : decode cX0_deleteColumn 9 = .ok (.if_icmp .ge 51, 3) := by decide +kernel
theorem dX0_deleteColumn_12 : decode cX0_deleteColumn 12 = .ok (.aload_n 0, 1) := by decide +kernel
theorem dX0_deleteColumn_13 : decode cX0_deleteColumn 13 = .ok (.getfield 24, 3) := by decide +kernel
theorem dX0_deleteColumn_16 : decode cX0_deleteColumn 16 = .ok (.iload_n 2, 1) := by decide +kernel
theorem dX0_deleteColumn_17 : decode cX0_deleteColumn 17 = .ok (.iconst 1, 1) := by decide +kernel
theorem dX0_deleteColumn_18 : decode cX0_deleteColumn 18 = .ok (.isub, 1) := by decide +kernel
theorem dX0_deleteColumn_19 : decode cX0_deleteColumn 19 = .ok (.aload_n 0, 1) := by decide +kernel
theorem dX0_deleteColumn_20 : decode cX0_deleteColumn 20 = .ok (.getfield 24, 3) := by decide +kernel
theorem dX0_deleteColumn_23 : decode cX0_deleteColumn 23 = .ok (.iload_n 2, 1) := by decide +kernel
theorem dX0_deleteColumn_24 : decode cX0_deleteColumn 24 = .ok (.iaload, 1) := by decide +kernel
theorem dX0_deleteColumn_25 : decode cX0_deleteColumn 25 = .ok (.iastore, 1) := by decide +kernel
theorem dX0_deleteColumn_26 : decode cX0_deleteColumn 26 = .ok (.aload_n 0, 1) := by decide +kernel
theorem dX0_deleteColumn_27 : decode cX0_deleteColumn 27 = .ok (.getfield 27, 3) := by decide +kernel
theorem dX0_deleteColumn_30 : decode cX0_deleteColumn 30 = .ok (.iload_n 2, 1) := by decide +kernel
theorem dX0_deleteColumn_31 : decode cX0_deleteColumn 31 = .ok (.iconst 1, 1) := by decide +kernel
theorem dX0_deleteColumn_32 : decode cX0_deleteColumn 32 = .ok (.isub, 1) := by decide +kernel
theorem dX0_deleteColumn_33 : decode cX0_deleteColumn 33 = .ok (.aload_n 0, 1) := by decide +kernel
theorem dX0_deleteColumn_34 : decode cX0_deleteColumn 34 = .ok (.getfield 27, 3) := by decide +kernel
theorem dX0_deleteColumn_37 : decode cX0_deleteColumn 37 = .ok (.iload_n 2, 1) := by decide +kernel
theorem dX0_deleteColumn_38 : decode cX0_deleteColumn 38 = .ok (.iaload, 1) := by decide +kernel
theorem dX0_deleteColumn_39 : decode cX0_deleteColumn 39 = .ok (.iastore, 1) := by decide +kernel
theorem dX0_deleteColumn_40 : decode cX0_deleteColumn 40 = .ok (.aload_n 0, 1) := by decide +kernel
theorem dX0_deleteColumn_41 : decode cX0_deleteColumn 41 = .ok (.getfield 30, 3) := by decide +kernel
theorem dX0_deleteColumn_44 : decode cX0_deleteColumn 44 = .ok (.iload_n 2, 1) := by decide +kernel
theorem dX0_deleteColumn_45 : decode cX0_deleteColumn 45 = .ok (.iconst 1, 1) := by decide +kernel
theorem dX0_deleteColumn_46 : decode cX0_deleteColumn 46 = .ok (.isub, 1) := by decide +kernel
theorem dX0_deleteColumn_47 : decode cX0_deleteColumn 47 = .ok (.aload_n 0, 1) := by decide +kernel
theorem dX0_deleteColumn_48 : decode cX0_deleteColumn 48 = .ok (.getfield 30, 3) := by decide +kernel
theorem dX0_deleteColumn_51 : decode cX0_deleteColumn 51 = .ok (.iload_n 2, 1) := by decide +kernel
theorem dX0_deleteColumn_52 : decode cX0_deleteColumn 52 = .ok (.iaload, 1) := by decide +kernel
theorem dX0_deleteColumn_53 : decode cX0_deleteColumn 53 = .ok (.iastore, 1) := by decide +kernel
theorem dX0_deleteColumn_54 : decode cX0_deleteColumn 54 = .ok (.iinc 2 1, 3) := by decide +kernel
theorem dX0_deleteColumn_57 : decode cX0_deleteColumn 57 = .ok (.goto (-53), 3) := by decide +kernel
theorem dX0_deleteColumn_60 : decode cX0_deleteColumn 60 = .ok (.aload_n 0, 1) := by decide +kernel
theorem dX0_deleteColumn_61 : decode cX0_deleteColumn 61 = .ok (.dup, 1) := by decide +kernel
theorem dX0_deleteColumn_62 : decode cX0_deleteColumn 62 = .ok (.getfield 46, 3) := by decide +kernel
theorem dX0_deleteColumn_65 : decode cX0_deleteColumn 65 = .ok (.iconst 1, 1) := by decide +kernel
theorem dX0_deleteColumn_66 : decode cX0_deleteColumn 66 = .ok (.isub, 1) := by decide +kernel
theorem dX0_deleteColumn_67 : decode cX0_deleteColumn 67 = .ok (.putfield 46, 3) := by decide +kernel
theorem dX0_deleteColumn_70 : decode cX0_deleteColumn 70 = .ok (.return_, 1) := by decide +kernel
theorem dX0_isTaken_0 : decode cX0_isTaken 0 = .ok (.aload_n 0, 1) := by decide +kernel
theorem dX0_isTaken_1 : decode cX0_isTaken 1 = .ok (.getfield 21, 3) := by decide +kernel
theorem dX0_isTaken_4 : decode cX0_isTaken 4 = .ok (.iload_n 1, 1) := by decide +kernel
theorem dX0_isTaken_5 : decode cX0_isTaken 5 = .ok (.iaload, 1) := by decide +kernel
theorem dX0_isTaken_6 : decode cX0_isTaken 6 = .ok (.iload_n 2, 1) := by decide +kernel
theorem dX0_isTaken_7 : decode cX0_isTaken 7 = .ok (.ishr, 1) := by decide +kernel
theorem dX0_isTaken_8 : decode cX0_isTaken 8 = .ok (.iconst 1, 1) := by decide +kernel
theorem dX0_isTaken_9 : decode cX0_isTaken 9 = .ok (.iand, 1) := by decide +kernel
theorem dX0_isTaken_10 : decode cX0_isTaken 10 = .ok (.iconst 1, 1) := by decide +kernel
theorem dX0_isTaken_11 : decode cX0_isTaken 11 = .ok (.if_icmp .ne 7, 3) := by decide +kernel
theorem dX0_isTaken_14 : decode cX0_isTaken 14 = .ok (.iconst 1, 1) := by decide +kernel
theorem dX0_isTaken_15 : decode cX0_isTaken 15 = .ok (.goto 4, 3) := by decide +kernel
theorem dX0_isTaken_18 : decode cX0_isTaken 18 = .ok (.iconst 0, 1) := by decide +kernel
theorem dX0_isTaken_19 : decode cX0_isTaken 19 = .ok (.ireturn, 1) := by decide +kernel
set_option maxRecDepth 20000 in
theorem ggX0_areFree_X0_bitsOf : GoodIn wsX0_areFree wsX0_bitsOf := goodIn_r _ [5] (by decide +kernel) (by decide +kernel)
set_option maxRecDepth 20000 in
theorem gX0_areFree_X0_bitsOf : GoodIn wsX0_areFree (va_wsS RX0 53 yX0_bitsOf wsX0_bitsOf) := goodIn_app (goodIn_of _ (by decide +kernel)) ggX0_areFree_X0_bitsOf
theorem dX0_areFree_0 : decode cX0_areFree 0 = .ok (.aload_n 0, 1) := by decide +kernel
theorem dX0_areFree_1 : decode cX0_areFree 1 = .ok (.getfield 21, 3) := by decide +kernel
theorem dX0_areFree_4 : decode cX0_areFree 4 = .ok (.iload_n 1, 1) := by decide +kernel
theorem dX0_areFree_5 : decode cX0_areFree 5 = .ok (.iaload, 1) := by decide +kernel
theorem dX0_areFree_6 : decode cX0_areFree 6 = .ok (.iload_n 2, 1) := by decide +kernel
theorem dX0_areFree_7 : decode cX0_areFree 7 = .ok (.iload_n 3, 1) := by decide +kernel
theorem dX0_areFree_8 : decode cX0_areFree 8 = .ok (.invokestatic 53, 3) := by decide +kernel
theorem dX0_areFree_11 : decode cX0_areFree 11 = .ok (.iand, 1) := by decide +kernel
theorem dX0_areFree_12 : decode cX0_areFree 12 = .ok (.ifCond .ne 7, 3) := by decide +kernel
theorem dX0_areFree_15 : decode cX0_areFree 15 = .ok (.iconst 1, 1) := by decide +kernel
theorem dX0_areFree_16 : decode cX0_areFree 16 = .ok (.goto 4, 3) := by decide +kernel
theorem dX0_areFree_19 : decode cX0_areFree 19 = .ok (.iconst 0, 1) := by decide +kernel
theorem dX0_areFree_20 : decode cX0_areFree 20 = .ok (.ireturn, 1) := by decide +kernel
set_option maxRecDepth 20000 in
theorem ggX0_occupy_X0_bitsOf : GoodIn wsX0_occupy wsX0_bitsOf := goodIn_r _ [5] (by decide +kernel) (by decide +kernel)
set_option maxRecDepth 20000 in
theorem gX0_occupy_X0_bitsOf : GoodIn wsX0_occupy (va_wsS RX0 53 yX0_bitsOf wsX0_bitsOf) := goodIn_app (goodIn_of _ (by decide +kernel)) ggX0_occupy_X0_bitsOf
theorem dX0_occupy_0 : decode cX0_occupy 0 = .ok (.aload_n 0, 1) := by decide +kernel
theorem dX0_occupy_1 : decode cX0_occupy 1 = .ok (.getfield 21, 3) := by decide +kernel
theorem dX0_occupy_4 : decode cX0_occupy 4 = .ok (.iload_n 1, 1) := by decide +kernel
theorem dX0_occupy_5 : decode cX0_occupy 5 = .ok (.aload_n 0, 1) := by decide +kernel
theorem dX0_occupy_6 : decode cX0_occupy 6 = .ok (.getfield 21, 3) := by decide +kernel
theorem dX0_occupy_9 : decode cX0_occupy 9 = .ok (.iload_n 1, 1) := by decide +kernel
theorem dX0_occupy_10 : decode cX0_occupy 10 = .ok (.iaload, 1) := by decide +kernel
theorem dX0_occupy_11 : decode cX0_occupy 11 = .ok (.iload_n 2, 1) := by decide +kernel
theorem dX0_occupy_12 : decode cX0_occupy 12 = .ok (.iload_n 3, 1) := by decide +kernel
theorem dX0_occupy_13 : decode cX0_occupy 13 = .ok (.invokestatic 53, 3) := by decide +kernel
theorem dX0_occupy_16 : decode cX0_occupy 16 = .ok (.ior, 1) := by decide +kernel
theorem dX0_occupy_17 : decode cX0_occupy 17 = .ok (.iastore, 1) := by decide +kernel
theorem dX0_occupy_18 : decode cX0_occupy 18 = .ok (.return_, 1) := by decide +kernel
set_option maxRecDepth 20000 in
theorem ggX0_vacate_X0_bitsOf : GoodIn wsX0_vacate wsX0_bitsOf := goodIn_r _ [5] (by decide +kernel) (by decide +kernel)
set_option maxRecDepth 20000 in
theorem gX0_vacate_X0_bitsOf : GoodIn wsX0_vacate (va_wsS RX0 53 yX0_bitsOf wsX0_bitsOf) := goodIn_app (goodIn_of _ (by decide +kernel)) ggX0_vacate_X0_bitsOf
theorem dX0_vacate_0 : decode cX0_vacate 0 = .ok (.aload_n 0, 1) := by decide +kernel
theorem dX0_vacate_1 : decode cX0_vacate 1 = .ok (.getfield 21, 3) := by decide +kernel
theorem dX0_vacate_4 : decode cX0_vacate 4 = .ok (.iload_n 1, 1) := by decide +kernel
theorem dX0_vacate_5 : decode cX0_vacate 5 = .ok (.aload_n 0, 1) := by decide +kernel
theorem dX0_vacate_6 : decode cX0_vacate 6 = .ok (.getfield 21, 3) := by decide +kernel
theorem dX0_vacate_9 : decode cX0_vacate 9 = .ok (.iload_n 1, 1) := by decide +kernel
theorem dX0_vacate_10 : decode cX0_vacate 10 = .ok (.iaload, 1) := by decide +kernel
theorem dX0_vacate_11 : decode cX0_vacate 11 = .ok (.iload_n 2, 1) := by decide +kernel
theorem dX0_vacate_12 : decode cX0_vacate 12 = .ok (.iconst 1, 1) := by decide +kernel
theorem dX0_vacate_13 : decode cX0_vacate 13 = .ok (.invokestatic 53, 3) := by decide +kernel
theorem dX0_vacate_16 : decode cX0_vacate 16 = .ok (.iconst (-1), 1) := by decide +kernel
theorem dX0_vacate_17 : decode cX0_vacate 17 = .ok (.ixor, 1) := by decide +kernel
theorem dX0_vacate_18 : decode cX0_vacate 18 = .ok (.iand, 1) := by decide +kernel
theorem dX0_vacate_19 : decode cX0_vacate 19 = .ok (.iastore, 1) := by decide +kernel
theorem dX0_vacate_20 : decode cX0_vacate 20 = .ok (.return_, 1) := by decide +kernel
theorem dX0_vacateAll_0 : decode cX0_vacateAll 0 = .ok (.iconst 0, 1) := by decide +kernel
theorem dX0_vacateAll_1 : decode cX0_vacateAll 1 = .ok (.istore_n 1, 1) := by decide +kernel
theorem dX0_vacateAll_2 : decode cX0_vacateAll 2 = .ok (.iload_n 1, 1) := by decide +kernel
theorem dX0_vacateAll_3 : decode cX0_vacateAll 3 = .ok (.aload_n 0, 1) := by decide +kernel
theorem dX0_vacateAll_4 : decode cX0_vacateAll 4 = .ok (.getfield 36, 3) := by decide +kernel
theorem dX0_vacateAll_7 : decode cX0_vacateAll 7 = .ok (.if_icmp .ge 16, 3) := by decide +kernel
theorem dX0_vacateAll_10 : decode cX0_vacateAll 10 = .ok (.aload_n 0, 1) := by decide +kernel
theorem dX0_vacateAll_11 : decode cX0_vacateAll 11 = .ok (.getfield 21, 3) := by decide +kernel
theorem dX0_vacateAll_14 : decode cX0_vacateAll 14 = .ok (.iload_n 1, 1) := by decide +kernel
theorem dX0_vacateAll_15 : decode cX0_vacateAll 15 = .ok (.iconst 0, 1) := by decide +kernel
theorem dX0_vacateAll_16 : decode cX0_vacateAll 16 = .ok (.iastore, 1) := by decide +kernel
theorem dX0_vacateAll_17 : decode cX0_vacateAll 17 = .ok (.iinc 1 1, 3) := by decide +kernel
theorem dX0_vacateAll_20 : decode cX0_vacateAll 20 = .ok (.goto (-18), 3) := by decide +kernel
theorem dX0_vacateAll_23 : decode cX0_vacateAll 23 = .ok (.return_, 1) := by decide +kernel
theorem dX0_bitsOf_0 : decode cX0_bitsOf 0 = .ok (.iconst 1, 1) := by decide +kernel
theorem dX0_bitsOf_1 : decode cX0_bitsOf 1 = .ok (.iload_n 1, 1) := by decide +kernel
theorem dX0_bitsOf_2 : decode cX0_bitsOf 2 = .ok (.ishl, 1) := by decide +kernel
theorem dX0_bitsOf_3 : decode cX0_bitsOf 3 = .ok (.iconst 1, 1) := by decide +kernel
theorem dX0_bitsOf_4 : decode cX0_bitsOf 4 = .ok (.isub, 1) := by decide +kernel
theorem dX0_bitsOf_5 : decode cX0_bitsOf 5 = .ok (.iload_n 0, 1) := by decide +kernel
theorem dX0_bitsOf_6 : decode cX0_bitsOf 6 = .ok (.ishl, 1) := by decide +kernel
theorem dX0_bitsOf_7 : decode cX0_bitsOf 7 = .ok (.ireturn, 1) := by decide +kernel
set_option maxRecDepth 20000 in
theorem ggX0_takenInRow_J6_bitCount_0f7a4 : GoodIn wsX0_takenInRow wsJ6_bitCount_0f7a4 := goodIn_r _ [5, 6, 7, 8] (by decide +kernel) (by decide +kernel)
set_option maxRecDepth 20000 in
theorem gX0_takenInRow_J6_bitCount_0f7a4 : GoodIn wsX0_takenInRow (va_wsS RX0 57 yJ6_bitCount_0f7a4 wsJ6_bitCount_0f7a4) := goodIn_app (goodIn_of _ (by decide +kernel)) ggX0_takenInRow_J6_bitCount_0f7a4
theorem dX0_takenInRow_0 : decode cX0_takenInRow 0 = .ok (.aload_n 0, 1) := by decide +kernel
theorem dX0_takenInRow_1 : decode cX0_takenInRow 1 = .ok (.getfield 21, 3) := by decide +kernel
theorem dX0_takenInRow_4 : decode cX0_takenInRow 4 = .ok (.iload_n 1, 1) := by decide +kernel
theorem dX0_takenInRow_5 : decode cX0_takenInRow 5 = .ok (.iaload, 1) := by decide +kernel
theorem dX0_takenInRow_6 : decode cX0_takenInRow 6 = .ok (.invokestatic 57, 3) := by decide +kernel
theorem dX0_takenInRow_9 : decode cX0_takenInRow 9 = .ok (.ireturn, 1) := by decide +kernel
set_option maxRecDepth 20000 in
theorem ggX0_takenInAll_X0_takenInRow : GoodIn wsX0_takenInAll wsX0_takenInRow := goodIn_r _ [6, 7, 8, 9, 10, 11, 12, 13, 14, 15, 16, 17, 18, 19, 20, 21, 22, 23, 24] (by decide +kernel) (by decide +kernel)
set_option maxRecDepth 20000 in
theorem gX0_takenInAll_X0_takenInRow : GoodIn wsX0_takenInAll (wsV RX0 63 RX0 yX0_takenInRow wsX0_takenInRow) := goodIn_app (goodIn_of _ (by decide +kernel)) ggX0_takenInAll_X0_takenInRow
theorem dX0_takenInAll_0 : decode cX0_takenInAll 0 = .ok (.iconst 0, 1) := by decide +kernel
theorem dX0_takenInAll_1 : decode cX0_takenInAll 1 = .ok (.istore_n 1, 1) := by decide +kernel
theorem dX0_takenInAll_2 : decode cX0_takenInAll 2 = .ok (.iconst 0, 1) := by decide +kernel
theorem dX0_takenInAll_3 : decode cX0_takenInAll 3 = .ok (.istore_n 2, 1) := by decide +kernel
theorem dX0_takenInAll_4 : decode cX0_takenInAll 4 = .ok (.iload_n 2, 1) := by decide +kernel
theorem dX0_takenInAll_5 : decode cX0_takenInAll 5 = .ok (.aload_n 0, 1) := by decide +kernel
theorem dX0_takenInAll_6 : decode cX0_takenInAll 6 = .ok (.getfield 36, 3) := by decide +kernel
theorem dX0_takenInAll_9 : decode cX0_takenInAll 9 = .ok (.if_icmp .ge 17, 3) := by decide +kernel
theorem dX0_takenInAll_12 : decode cX0_takenInAll 12 = .ok (.iload_n 1, 1) := by decide +kernel
theorem dX0_takenInAll_13 : decode cX0_takenInAll 13 = .ok (.aload_n 0, 1) := by decide +kernel
theorem dX0_takenInAll_14 : decode cX0_takenInAll 14 = .ok (.iload_n 2, 1) := by decide +kernel
theorem dX0_takenInAll_15 : decode cX0_takenInAll 15 = .ok (.invokevirtual 63, 3) := by decide +kernel
theorem dX0_takenInAll_18 : decode cX0_takenInAll 18 = .ok (.iadd, 1) := by decide +kernel
theorem dX0_takenInAll_19 : decode cX0_takenInAll 19 = .ok (.istore_n 1, 1) := by decide +kernel
theorem dX0_takenInAll_20 : decode cX0_takenInAll 20 = .ok (.iinc 2 1, 3) := by decide +kernel
theorem dX0_takenInAll_23 : decode cX0_takenInAll 23 = .ok (.goto (-19), 3) := by decide +kernel
theorem dX0_takenInAll_26 : decode cX0_takenInAll 26 = .ok (.iload_n 1, 1) := by decide +kernel
theorem dX0_takenInAll_27 : decode cX0_takenInAll 27 = .ok (.ireturn, 1) := by decide +kernel
theorem dX0_seatsInAll_0 : decode cX0_seatsInAll 0 = .ok (.iconst 0, 1) := by decide +kernel
theorem dX0_seatsInAll_1 : decode cX0_seatsInAll 1 = .ok (.istore_n 1, 1) := by decide +kernel
theorem dX0_seatsInAll_2 : decode cX0_seatsInAll 2 = .ok (.iconst 0, 1) := by decide +kernel
theorem dX0_seatsInAll_3 : decode cX0_seatsInAll 3 = .ok (.istore_n 2, 1) := by decide +kernel
theorem dX0_seatsInAll_4 : decode cX0_seatsInAll 4 = .ok (.iload_n 2, 1) := by decide +kernel
theorem dX0_seatsInAll_5 : decode cX0_seatsInAll 5 = .ok (.aload_n 0, 1) := by decide +kernel
theorem dX0_seatsInAll_6 : decode cX0_seatsInAll 6 = .ok (.getfield 36, 3) := by decide +kernel
theorem dX0_seatsInAll_9 : decode cX0_seatsInAll 9 = .ok (.if_icmp .ge 18, 3) := by decide +kernel
theorem dX0_seatsInAll_12 : decode cX0_seatsInAll 12 = .ok (.iload_n 1, 1) := by decide +kernel
theorem dX0_seatsInAll_13 : decode cX0_seatsInAll 13 = .ok (.aload_n 0, 1) := by decide +kernel
theorem dX0_seatsInAll_14 : decode cX0_seatsInAll 14 = .ok (.getfield 18, 3) := by decide +kernel
theorem dX0_seatsInAll_17 : decode cX0_seatsInAll 17 = .ok (.iload_n 2, 1) := by decide +kernel
theorem dX0_seatsInAll_18 : decode cX0_seatsInAll 18 = .ok (.iaload, 1) := by decide +kernel
theorem dX0_seatsInAll_19 : decode cX0_seatsInAll 19 = .ok (.iadd, 1) := by decide +kernel
theorem dX0_seatsInAll_20 : decode cX0_seatsInAll 20 = .ok (.istore_n 1, 1) := by decide +kernel
theorem dX0_seatsInAll_21 : decode cX0_seatsInAll 21 = .ok (.iinc 2 1, 3) := by decide +kernel
theorem dX0_seatsInAll_24 : decode cX0_seatsInAll 24 = .ok (.goto (-20), 3) := by decide +kernel
theorem dX0_seatsInAll_27 : decode cX0_seatsInAll 27 = .ok (.iload_n 1, 1) := by decide +kernel
theorem dX0_seatsInAll_28 : decode cX0_seatsInAll 28 = .ok (.ireturn, 1) := by decide +kernel
set_option maxRecDepth 20000 in
theorem ggX0_longestFree_X0_isTaken : GoodIn wsX0_longestFree wsX0_isTaken := goodIn_r _ [11, 12, 13, 14, 15, 16, 17, 18, 19, 20, 21, 22] (by decide +kernel) (by decide +kernel)
set_option maxRecDepth 20000 in
theorem gX0_longestFree_X0_isTaken : GoodIn wsX0_longestFree (wsV RX0 66 RX0 yX0_isTaken wsX0_isTaken) := goodIn_app (goodIn_of _ (by decide +kernel)) ggX0_longestFree_X0_isTaken
theorem dX0_longestFree_0 : decode cX0_longestFree 0 = .ok (.iconst 0, 1) := by decide +kernel
theorem dX0_longestFree_1 : decode cX0_longestFree 1 = .ok (.istore_n 1, 1) := by decide +kernel
theorem dX0_longestFree_2 : decode cX0_longestFree 2 = .ok (.iconst 0, 1) := by decide +kernel
theorem dX0_longestFree_3 : decode cX0_longestFree 3 = .ok (.istore_n 2, 1) := by decide +kernel
theorem dX0_longestFree_4 : decode cX0_longestFree 4 = .ok (.iload_n 2, 1) := by decide +kernel
theorem dX0_longestFree_5 : decode cX0_longestFree 5 = .ok (.aload_n 0, 1) := by decide +kernel
theorem dX0_longestFree_6 : decode cX0_longestFree 6 = .ok (.getfield 36, 3) := by decide +kernel
theorem dX0_longestFree_9 : decode cX0_longestFree 9 = .ok (.if_icmp .ge 55, 3) := by decide +kernel
theorem dX0_longestFree_12 : decode cX0_longestFree 12 = .ok (.iconst 0, 1) := by decide +kernel
theorem dX0_longestFree_13 : decode cX0_longestFree 13 = .ok (.istore_n 3, 1) := by decide +kernel
theorem dX0_longestFree_14 : decode cX0_longestFree 14 = .ok (.iconst 0, 1) := by decide +kernel
theorem dX0_longestFree_15 : decode cX0_longestFree 15 = .ok (.istore 4, 2) := by decide +kernel
theorem dX0_longestFree_17 : decode cX0_longestFree 17 = .ok (.iload 4, 2) := by decide +kernel
theorem dX0_longestFree_19 : decode cX0_longestFree 19 = .ok (.aload_n 0, 1) := by decide +kernel
theorem dX0_longestFree_20 : decode cX0_longestFree 20 = .ok (.getfield 18, 3) := by decide +kernel
theorem dX0_longestFree_23 : decode cX0_longestFree 23 = .ok (.iload_n 2, 1) := by decide +kernel
theorem dX0_longestFree_24 : decode cX0_longestFree 24 = .ok (.iaload, 1) := by decide +kernel
theorem dX0_longestFree_25 : decode cX0_longestFree 25 = .ok (.if_icmp .ge 33, 3) := by decide +kernel
theorem dX0_longestFree_28 : decode cX0_longestFree 28 = .ok (.aload_n 0, 1) := by decide +kernel
theorem dX0_longestFree_29 : decode cX0_longestFree 29 = .ok (.iload_n 2, 1) := by decide +kernel
theorem dX0_longestFree_30 : decode cX0_longestFree 30 = .ok (.iload 4, 2) := by decide +kernel
theorem dX0_longestFree_32 : decode cX0_longestFree 32 = .ok (.invokevirtual 66, 3) := by decide +kernel
theorem dX0_longestFree_35 : decode cX0_longestFree 35 = .ok (.ifCond .eq 7, 3) := by decide +kernel
theorem dX0_longestFree_38 : decode cX0_longestFree 38 = .ok (.iconst 0, 1) := by decide +kernel
theorem dX0_longestFree_39 : decode cX0_longestFree 39 = .ok (.goto 6, 3) := by decide +kernel
theorem dX0_longestFree_42 : decode cX0_longestFree 42 = .ok (.iload_n 3, 1) := by decide +kernel
theorem dX0_longestFree_43 : decode cX0_longestFree 43 = .ok (.iconst 1, 1) := by decide +kernel
theorem dX0_longestFree_44 : decode cX0_longestFree 44 = .ok (.iadd, 1) := by decide +kernel
theorem dX0_longestFree_45 : decode cX0_longestFree 45 = .ok (.istore_n 3, 1) := by decide +kernel
theorem dX0_longestFree_46 : decode cX0_longestFree 46 = .ok (.iload_n 1, 1) := by decide +kernel
theorem dX0_longestFree_47 : decode cX0_longestFree 47 = .ok (.iload_n 3, 1) := by decide +kernel
theorem dX0_longestFree_48 : decode cX0_longestFree 48 = .ok (.invokestatic 70, 3) := by decide +kernel
theorem dX0_longestFree_51 : decode cX0_longestFree 51 = .ok (.istore_n 1, 1) := by decide +kernel
theorem dX0_longestFree_52 : decode cX0_longestFree 52 = .ok (.iinc 4 1, 3) := by decide +kernel
theorem dX0_longestFree_55 : decode cX0_longestFree 55 = .ok (.goto (-38), 3) := by decide +kernel
theorem dX0_longestFree_58 : decode cX0_longestFree 58 = .ok (.iinc 2 1, 3) := by decide +kernel
theorem dX0_longestFree_61 : decode cX0_longestFree 61 = .ok (.goto (-57), 3) := by decide +kernel
theorem dX0_longestFree_64 : decode cX0_longestFree 64 = .ok (.iload_n 1, 1) := by decide +kernel
theorem dX0_longestFree_65 : decode cX0_longestFree 65 = .ok (.ireturn, 1) := by decide +kernel
theorem dX0_sideOf_0 : decode cX0_sideOf 0 = .ok (.iconst 2, 1) := by decide +kernel
theorem dX0_sideOf_1 : decode cX0_sideOf 1 = .ok (.iload_n 2, 1) := by decide +kernel
theorem dX0_sideOf_2 : decode cX0_sideOf 2 = .ok (.imul, 1) := by decide +kernel
theorem dX0_sideOf_3 : decode cX0_sideOf 3 = .ok (.aload_n 0, 1) := by decide +kernel
theorem dX0_sideOf_4 : decode cX0_sideOf 4 = .ok (.getfield 18, 3) := by decide +kernel
theorem dX0_sideOf_7 : decode cX0_sideOf 7 = .ok (.iload_n 1, 1) := by decide +kernel
theorem dX0_sideOf_8 : decode cX0_sideOf 8 = .ok (.iaload, 1) := by decide +kernel
theorem dX0_sideOf_9 : decode cX0_sideOf 9 = .ok (.iconst 1, 1) := by decide +kernel
theorem dX0_sideOf_10 : decode cX0_sideOf 10 = .ok (.isub, 1) := by decide +kernel
theorem dX0_sideOf_11 : decode cX0_sideOf 11 = .ok (.isub, 1) := by decide +kernel
theorem dX0_sideOf_12 : decode cX0_sideOf 12 = .ok (.ireturn, 1) := by decide +kernel
set_option maxRecDepth 20000 in
theorem ggX0_isHeadInWay_X0_sideOf : GoodIn wsX0_isHeadInWay wsX0_sideOf := goodIn_r _ [10, 11, 22, 23, 24, 25, 26, 27, 28, 29, 30, 31] (by decide +kernel) (by decide +kernel)
set_option maxRecDepth 20000 in
theorem gX0_isHeadInWay_X0_sideOf : GoodIn wsX0_isHeadInWay (wsV RX0 75 RX0 yX0_sideOf wsX0_sideOf) := goodIn_app (goodIn_of _ (by decide +kernel)) ggX0_isHeadInWay_X0_sideOf
set_option maxRecDepth 20000 in
theorem ggX0_isHeadInWay_X0_headOverPoint : GoodIn wsX0_isHeadInWay wsX0_headOverPoint := goodIn_r _ [15, 16, 17, 22, 23, 24, 25, 26, 27, 28, 29, 30, 31] (by decide +kernel) (by decide +kernel)
set_option maxRecDepth 20000 in
theorem gX0_isHeadInWay_X0_headOverPoint : GoodIn wsX0_isHeadInWay (wsV RX0 81 RX0 yX0_headOverPoint wsX0_headOverPoint) := goodIn_app (goodIn_of _ (by decide +kernel)) ggX0_isHeadInWay_X0_headOverPoint
set_option maxRecDepth 20000 in
theorem ggX0_isHeadInWay_X0_eyeOverPoint : GoodIn wsX0_isHeadInWay wsX0_eyeOverPoint := goodIn_r _ [21, 16, 17, 22, 23, 24, 25, 26, 27, 28, 29, 30, 31] (by decide +kernel) (by decide +kernel)
set_option maxRecDepth 20000 in
theorem gX0_isHeadInWay_X0_eyeOverPoint : GoodIn wsX0_isHeadInWay (wsV RX0 84 RX0 yX0_eyeOverPoint wsX0_eyeOverPoint) := goodIn_app (goodIn_of _ (by decide +kernel)) ggX0_isHeadInWay_X0_eyeOverPoint
theorem dX0_isHeadInWay_0 : decode cX0_isHeadInWay 0 = .ok (.aload_n 0, 1) := by decide +kernel
theorem dX0_isHeadInWay_1 : decode cX0_isHeadInWay 1 = .ok (.getfield 9, 3) := by decide +kernel
theorem dX0_isHeadInWay_4 : decode cX0_isHeadInWay 4 = .ok (.iload_n 1, 1) := by decide +kernel
theorem dX0_isHeadInWay_5 : decode cX0_isHeadInWay 5 = .ok (.iaload, 1) := by decide +kernel
theorem dX0_isHeadInWay_6 : decode cX0_isHeadInWay 6 = .ok (.istore 5, 2) := by decide +kernel
theorem dX0_isHeadInWay_8 : decode cX0_isHeadInWay 8 = .ok (.aload_n 0, 1) := by decide +kernel
theorem dX0_isHeadInWay_9 : decode cX0_isHeadInWay 9 = .ok (.getfield 9, 3) := by decide +kernel
theorem dX0_isHeadInWay_12 : decode cX0_isHeadInWay 12 = .ok (.iload_n 3, 1) := by decide +kernel
theorem dX0_isHeadInWay_13 : decode cX0_isHeadInWay 13 = .ok (.iaload, 1) := by decide +kernel
theorem dX0_isHeadInWay_14 : decode cX0_isHeadInWay 14 = .ok (.istore 6, 2) := by decide +kernel
theorem dX0_isHeadInWay_16 : decode cX0_isHeadInWay 16 = .ok (.aload_n 0, 1) := by decide +kernel
theorem dX0_isHeadInWay_17 : decode cX0_isHeadInWay 17 = .ok (.iload_n 3, 1) := by decide +kernel
theorem dX0_isHeadInWay_18 : decode cX0_isHeadInWay 18 = .ok (.iload 4, 2) := by decide +kernel
theorem dX0_isHeadInWay_20 : decode cX0_isHeadInWay 20 = .ok (.invokevirtual 75, 3) := by decide +kernel
theorem dX0_isHeadInWay_23 : decode cX0_isHeadInWay 23 = .ok (.iload 5, 2) := by decide +kernel
theorem dX0_isHeadInWay_25 : decode cX0_isHeadInWay 25 = .ok (.imul, 1) := by decide +kernel
theorem dX0_isHeadInWay_26 : decode cX0_isHeadInWay 26 = .ok (.aload_n 0, 1) := by decide +kernel
theorem dX0_isHeadInWay_27 : decode cX0_isHeadInWay 27 = .ok (.iload_n 1, 1) := by decide +kernel
theorem dX0_isHeadInWay_28 : decode cX0_isHeadInWay 28 = .ok (.iload_n 2, 1) := by decide +kernel
theorem dX0_isHeadInWay_29 : decode cX0_isHeadInWay 29 = .ok (.invokevirtual 75, 3) := by decide +kernel
theorem dX0_isHeadInWay_32 : decode cX0_isHeadInWay 32 = .ok (.iload 6, 2) := by decide +kernel
theorem dX0_isHeadInWay_34 : decode cX0_isHeadInWay 34 = .ok (.imul, 1) := by decide +kernel
theorem dX0_isHeadInWay_35 : decode cX0_isHeadInWay 35 = .ok (.isub, 1) := by decide +kernel
theorem dX0_isHeadInWay_36 : decode cX0_isHeadInWay 36 = .ok (.istore 7, 2) := by decide +kernel
theorem dX0_isHeadInWay_38 : decode cX0_isHeadInWay 38 = .ok (.iload 6, 2) := by decide +kernel
theorem dX0_isHeadInWay_40 : decode cX0_isHeadInWay 40 = .ok (.iload 5, 2) := by decide +kernel
theorem dX0_isHeadInWay_42 : decode cX0_isHeadInWay 42 = .ok (.if_icmp .ge 13, 3) := by decide +kernel
theorem dX0_isHeadInWay_45 : decode cX0_isHeadInWay 45 = .ok (.iload 7, 2) := by decide +kernel
theorem dX0_isHeadInWay_47 : decode cX0_isHeadInWay 47 = .ok (.invokestatic 78, 3) := by decide +kernel
theorem dX0_isHeadInWay_50 : decode cX0_isHeadInWay 50 = .ok (.iload 5, 2) := by decide +kernel
theorem dX0_isHeadInWay_52 : decode cX0_isHeadInWay 52 = .ok (.if_icmp .lt 5, 3) := by decide +kernel
theorem dX0_isHeadInWay_55 : decode cX0_isHeadInWay 55 = .ok (.iconst 0, 1) := by decide +kernel
theorem dX0_isHeadInWay_56 : decode cX0_isHeadInWay 56 = .ok (.ireturn, 1) := by decide +kernel
theorem dX0_isHeadInWay_57 : decode cX0_isHeadInWay 57 = .ok (.aload_n 0, 1) := by decide +kernel
theorem dX0_isHeadInWay_58 : decode cX0_isHeadInWay 58 = .ok (.iload_n 3, 1) := by decide +kernel
theorem dX0_isHeadInWay_59 : decode cX0_isHeadInWay 59 = .ok (.invokevirtual 81, 3) := by decide +kernel
theorem dX0_isHeadInWay_62 : decode cX0_isHeadInWay 62 = .ok (.iload 5, 2) := by decide +kernel
theorem dX0_isHeadInWay_64 : decode cX0_isHeadInWay 64 = .ok (.imul, 1) := by decide +kernel
theorem dX0_isHeadInWay_65 : decode cX0_isHeadInWay 65 = .ok (.aload_n 0, 1) := by decide +kernel
theorem dX0_isHeadInWay_66 : decode cX0_isHeadInWay 66 = .ok (.iload_n 1, 1) := by decide +kernel
theorem dX0_isHeadInWay_67 : decode cX0_isHeadInWay 67 = .ok (.invokevirtual 84, 3) := by decide +kernel
theorem dX0_isHeadInWay_70 : decode cX0_isHeadInWay 70 = .ok (.iload 6, 2) := by decide +kernel
theorem dX0_isHeadInWay_72 : decode cX0_isHeadInWay 72 = .ok (.imul, 1) := by decide +kernel
theorem dX0_isHeadInWay_73 : decode cX0_isHeadInWay 73 = .ok (.if_icmp .le 7, 3) := by decide +kernel
theorem dX0_isHeadInWay_76 : decode cX0_isHeadInWay 76 = .ok (.iconst 1, 1) := by decide +kernel
theorem dX0_isHeadInWay_77 : decode cX0_isHeadInWay 77 = .ok (.goto 4, 3) := by decide +kernel
theorem dX0_isHeadInWay_80 : decode cX0_isHeadInWay 80 = .ok (.iconst 0, 1) := by decide +kernel
theorem dX0_isHeadInWay_81 : decode cX0_isHeadInWay 81 = .ok (.ireturn, 1) := by decide +kernel
theorem dX0_eyeOverPoint_0 : decode cX0_eyeOverPoint 0 = .ok (.aload_n 0, 1) := by decide +kernel
theorem dX0_eyeOverPoint_1 : decode cX0_eyeOverPoint 1 = .ok (.getfield 15, 3) := by decide +kernel
theorem dX0_eyeOverPoint_4 : decode cX0_eyeOverPoint 4 = .ok (.iload_n 1, 1) := by decide +kernel
theorem dX0_eyeOverPoint_5 : decode cX0_eyeOverPoint 5 = .ok (.iaload, 1) := by decide +kernel
theorem dX0_eyeOverPoint_6 : decode cX0_eyeOverPoint 6 = .ok (.aload_n 0, 1) := by decide +kernel
theorem dX0_eyeOverPoint_7 : decode cX0_eyeOverPoint 7 = .ok (.getfield 33, 3) := by decide +kernel
theorem dX0_eyeOverPoint_10 : decode cX0_eyeOverPoint 10 = .ok (.iconst 1, 1) := by decide +kernel
theorem dX0_eyeOverPoint_11 : decode cX0_eyeOverPoint 11 = .ok (.iaload, 1) := by decide +kernel
theorem dX0_eyeOverPoint_12 : decode cX0_eyeOverPoint 12 = .ok (.iadd, 1) := by decide +kernel
theorem dX0_eyeOverPoint_13 : decode cX0_eyeOverPoint 13 = .ok (.aload_n 0, 1) := by decide +kernel
theorem dX0_eyeOverPoint_14 : decode cX0_eyeOverPoint 14 = .ok (.getfield 33, 3) := by decide +kernel
theorem dX0_eyeOverPoint_17 : decode cX0_eyeOverPoint 17 = .ok (.iconst 0, 1) := by decide +kernel
theorem dX0_eyeOverPoint_18 : decode cX0_eyeOverPoint 18 = .ok (.iaload, 1) := by decide +kernel
theorem dX0_eyeOverPoint_19 : decode cX0_eyeOverPoint 19 = .ok (.isub, 1) := by decide +kernel
theorem dX0_eyeOverPoint_20 : decode cX0_eyeOverPoint 20 = .ok (.ireturn, 1) := by decide +kernel
theorem dX0_headOverPoint_0 : decode cX0_headOverPoint 0 = .ok (.aload_n 0, 1) := by decide +kernel
theorem dX0_headOverPoint_1 : decode cX0_headOverPoint 1 = .ok (.getfield 15, 3) := by decide +kernel
theorem dX0_headOverPoint_4 : decode cX0_headOverPoint 4 = .ok (.iload_n 1, 1) := by decide +kernel
theorem dX0_headOverPoint_5 : decode cX0_headOverPoint 5 = .ok (.iaload, 1) := by decide +kernel
theorem dX0_headOverPoint_6 : decode cX0_headOverPoint 6 = .ok (.aload_n 0, 1) := by decide +kernel
theorem dX0_headOverPoint_7 : decode cX0_headOverPoint 7 = .ok (.getfield 33, 3) := by decide +kernel
theorem dX0_headOverPoint_10 : decode cX0_headOverPoint 10 = .ok (.iconst 1, 1) := by decide +kernel
theorem dX0_headOverPoint_11 : decode cX0_headOverPoint 11 = .ok (.iaload, 1) := by decide +kernel
theorem dX0_headOverPoint_12 : decode cX0_headOverPoint 12 = .ok (.iadd, 1) := by decide +kernel
theorem dX0_headOverPoint_13 : decode cX0_headOverPoint 13 = .ok (.aload_n 0, 1) := by decide +kernel
theorem dX0_headOverPoint_14 : decode cX0_headOverPoint 14 = .ok (.getfield 33, 3) := by decide +kernel
theorem dX0_headOverPoint_17 : decode cX0_headOverPoint 17 = .ok (.iconst 2, 1) := by decide +kernel
theorem dX0_headOverPoint_18 : decode cX0_headOverPoint 18 = .ok (.iaload, 1) := by decide +kernel
theorem dX0_headOverPoint_19 : decode cX0_headOverPoint 19 = .ok (.iadd, 1) := by decide +kernel
theorem dX0_headOverPoint_20 : decode cX0_headOverPoint 20 = .ok (.aload_n 0, 1) := by decide +kernel
theorem dX0_headOverPoint_21 : decode cX0_headOverPoint 21 = .ok (.getfield 33, 3) := by decide +kernel
theorem dX0_headOverPoint_24 : decode cX0_headOverPoint 24 = .ok (.iconst 0, 1) := by decide +kernel
theorem dX0_headOverPoint_25 : decode cX0_headOverPoint 25 = .ok (.iaload, 1) := by decide +kernel
theorem dX0_headOverPoint_26 : decode cX0_headOverPoint 26 = .ok (.isub, 1) := by decide +kernel
theorem dX0_headOverPoint_27 : decode cX0_headOverPoint 27 = .ok (.ireturn, 1) := by decide +kernel
set_option maxRecDepth 20000 in
theorem ggX0_isColumnInWay_X0_sideOf : GoodIn wsX0_isColumnInWay wsX0_sideOf := goodIn_r _ [13, 14, 15, 16, 17, 18, 19, 20, 21, 22, 23, 24] (by decide +kernel) (by decide +kernel)
set_option maxRecDepth 20000 in
theorem gX0_isColumnInWay_X0_sideOf : GoodIn wsX0_isColumnInWay (wsV RX0 75 RX0 yX0_sideOf wsX0_sideOf) := goodIn_app (goodIn_of _ (by decide +kernel)) ggX0_isColumnInWay_X0_sideOf
theorem dX0_isColumnInWay_0 : decode cX0_isColumnInWay 0 = .ok (.aload_n 0, 1) := by decide +kernel
theorem dX0_isColumnInWay_1 : decode cX0_isColumnInWay 1 = .ok (.getfield 9, 3) := by decide +kernel
theorem dX0_isColumnInWay_4 : decode cX0_isColumnInWay 4 = .ok (.iload_n 1, 1) := by decide +kernel
theorem dX0_isColumnInWay_5 : decode cX0_isColumnInWay 5 = .ok (.iaload, 1) := by decide +kernel
theorem dX0_isColumnInWay_6 : decode cX0_isColumnInWay 6 = .ok (.istore 4, 2) := by decide +kernel
theorem dX0_isColumnInWay_8 : decode cX0_isColumnInWay 8 = .ok (.aload_n 0, 1) := by decide +kernel
theorem dX0_isColumnInWay_9 : decode cX0_isColumnInWay 9 = .ok (.getfield 24, 3) := by decide +kernel
theorem dX0_isColumnInWay_12 : decode cX0_isColumnInWay 12 = .ok (.iload_n 3, 1) := by decide +kernel
theorem dX0_isColumnInWay_13 : decode cX0_isColumnInWay 13 = .ok (.iaload, 1) := by decide +kernel
theorem dX0_isColumnInWay_14 : decode cX0_isColumnInWay 14 = .ok (.istore 5, 2) := by decide +kernel
theorem dX0_isColumnInWay_16 : decode cX0_isColumnInWay 16 = .ok (.aload_n 0, 1) := by decide +kernel
theorem dX0_isColumnInWay_17 : decode cX0_isColumnInWay 17 = .ok (.getfield 27, 3) := by decide +kernel
theorem dX0_isColumnInWay_20 : decode cX0_isColumnInWay 20 = .ok (.iload_n 3, 1) := by decide +kernel
theorem dX0_isColumnInWay_21 : decode cX0_isColumnInWay 21 = .ok (.iaload, 1) := by decide +kernel
theorem dX0_isColumnInWay_22 : decode cX0_isColumnInWay 22 = .ok (.iload 4, 2) := by decide +kernel
theorem dX0_isColumnInWay_24 : decode cX0_isColumnInWay 24 = .ok (.imul, 1) := by decide +kernel
theorem dX0_isColumnInWay_25 : decode cX0_isColumnInWay 25 = .ok (.aload_n 0, 1) := by decide +kernel
theorem dX0_isColumnInWay_26 : decode cX0_isColumnInWay 26 = .ok (.iload_n 1, 1) := by decide +kernel
theorem dX0_isColumnInWay_27 : decode cX0_isColumnInWay 27 = .ok (.iload_n 2, 1) := by decide +kernel
theorem dX0_isColumnInWay_28 : decode cX0_isColumnInWay 28 = .ok (.invokevirtual 75, 3) := by decide +kernel
theorem dX0_isColumnInWay_31 : decode cX0_isColumnInWay 31 = .ok (.iload 5, 2) := by decide +kernel
theorem dX0_isColumnInWay_33 : decode cX0_isColumnInWay 33 = .ok (.imul, 1) := by decide +kernel
theorem dX0_isColumnInWay_34 : decode cX0_isColumnInWay 34 = .ok (.isub, 1) := by decide +kernel
theorem dX0_isColumnInWay_35 : decode cX0_isColumnInWay 35 = .ok (.istore 6, 2) := by decide +kernel
theorem dX0_isColumnInWay_37 : decode cX0_isColumnInWay 37 = .ok (.iload 5, 2) := by decide +kernel
theorem dX0_isColumnInWay_39 : decode cX0_isColumnInWay 39 = .ok (.iload 4, 2) := by decide +kernel
theorem dX0_isColumnInWay_41 : decode cX0_isColumnInWay 41 = .ok (.if_icmp .ge 24, 3) := by decide +kernel
theorem dX0_isColumnInWay_44 : decode cX0_isColumnInWay 44 = .ok (.iload 6, 2) := by decide +kernel
theorem dX0_isColumnInWay_46 : decode cX0_isColumnInWay 46 = .ok (.invokestatic 78, 3) := by decide +kernel
theorem dX0_isColumnInWay_49 : decode cX0_isColumnInWay 49 = .ok (.aload_n 0, 1) := by decide +kernel
theorem dX0_isColumnInWay_50 : decode cX0_isColumnInWay 50 = .ok (.getfield 30, 3) := by decide +kernel
theorem dX0_isColumnInWay_53 : decode cX0_isColumnInWay 53 = .ok (.iload_n 3, 1) := by decide +kernel
theorem dX0_isColumnInWay_54 : decode cX0_isColumnInWay 54 = .ok (.iaload, 1) := by decide +kernel
theorem dX0_isColumnInWay_55 : decode cX0_isColumnInWay 55 = .ok (.iload 4, 2) := by decide +kernel
theorem dX0_isColumnInWay_57 : decode cX0_isColumnInWay 57 = .ok (.imul, 1) := by decide +kernel
theorem dX0_isColumnInWay_58 : decode cX0_isColumnInWay 58 = .ok (.if_icmp .gt 7, 3) := by decide +kernel
theorem dX0_isColumnInWay_61 : decode cX0_isColumnInWay 61 = .ok (.iconst 1, 1) := by decide +kernel
theorem dX0_isColumnInWay_62 : decode cX0_isColumnInWay 62 = .ok (.goto 4, 3) := by decide +kernel
theorem dX0_isColumnInWay_65 : decode cX0_isColumnInWay 65 = .ok (.iconst 0, 1) := by decide +kernel
theorem dX0_isColumnInWay_66 : decode cX0_isColumnInWay 66 = .ok (.ireturn, 1) := by decide +kernel
set_option maxRecDepth 20000 in
theorem ggX0_peopleInWay_X0_isTaken : GoodIn wsX0_peopleInWay wsX0_isTaken := goodIn_r _ [6, 7, 31, 32, 33, 34, 35, 36, 37, 38, 39, 40] (by decide +kernel) (by decide +kernel)
set_option maxRecDepth 20000 in
theorem gX0_peopleInWay_X0_isTaken : GoodIn wsX0_peopleInWay (wsV RX0 66 RX0 yX0_isTaken wsX0_isTaken) := goodIn_app (goodIn_of _ (by decide +kernel)) ggX0_peopleInWay_X0_isTaken
set_option maxRecDepth 20000 in
theorem ggX0_peopleInWay_X0_isHeadInWay : GoodIn wsX0_peopleInWay wsX0_isHeadInWay := goodIn_r _ [11, 12, 13, 14, 15, 16, 17, 18, 19, 5, 20, 1, 21, 22, 23, 24, 25, 26, 27, 28, 29, 30, 31, 32, 33, 34, 35, 36, 37, 38, 39, 40] (by decide +kernel) (by decide +kernel)
set_option maxRecDepth 20000 in
theorem gX0_peopleInWay_X0_isHeadInWay : GoodIn wsX0_peopleInWay (wsV RX0 87 RX0 yX0_isHeadInWay wsX0_isHeadInWay) := goodIn_app (goodIn_of _ (by decide +kernel)) ggX0_peopleInWay_X0_isHeadInWay
theorem dX0_peopleInWay_0 : decode cX0_peopleInWay 0 = .ok (.iconst 0, 1) := by decide +kernel
theorem dX0_peopleInWay_1 : decode cX0_peopleInWay 1 = .ok (.istore_n 3, 1) := by decide +kernel
theorem dX0_peopleInWay_2 : decode cX0_peopleInWay 2 = .ok (.iconst 0, 1) := by decide +kernel
theorem dX0_peopleInWay_3 : decode cX0_peopleInWay 3 = .ok (.istore 4, 2) := by decide +kernel
theorem dX0_peopleInWay_5 : decode cX0_peopleInWay 5 = .ok (.iload 4, 2) := by decide +kernel
theorem dX0_peopleInWay_7 : decode cX0_peopleInWay 7 = .ok (.iload_n 1, 1) := by decide +kernel
theorem dX0_peopleInWay_8 : decode cX0_peopleInWay 8 = .ok (.if_icmp .ge 57, 3) := by decide +kernel
theorem dX0_peopleInWay_11 : decode cX0_peopleInWay 11 = .ok (.iconst 0, 1) := by decide +kernel
theorem dX0_peopleInWay_12 : decode cX0_peopleInWay 12 = .ok (.istore 5, 2) := by decide +kernel
theorem dX0_peopleInWay_14 : decode cX0_peopleInWay 14 = .ok (.iload 5, 2) := by decide +kernel
theorem dX0_peopleInWay_16 : decode cX0_peopleInWay 16 = .ok (.aload_n 0, 1) := by decide +kernel
theorem dX0_peopleInWay_17 : decode cX0_peopleInWay 17 = .ok (.getfield 18, 3) := by decide +kernel
theorem dX0_peopleInWay_20 : decode cX0_peopleInWay 20 = .ok (.iload 4, 2) := by decide +kernel
theorem dX0_peopleInWay_22 : decode cX0_peopleInWay 22 = .ok (.iaload, 1) := by decide +kernel
theorem dX0_peopleInWay_23 : decode cX0_peopleInWay 23 = .ok (.if_icmp .ge 36, 3) := by decide +kernel
theorem dX0_peopleInWay_26 : decode cX0_peopleInWay 26 = .ok (.aload_n 0, 1) := by decide +kernel
theorem dX0_peopleInWay_27 : decode cX0_peopleInWay 27 = .ok (.iload 4, 2) := by decide +kernel
theorem dX0_peopleInWay_29 : decode cX0_peopleInWay 29 = .ok (.iload 5, 2) := by decide +kernel
theorem dX0_peopleInWay_31 : decode cX0_peopleInWay 31 = .ok (.invokevirtual 66, 3) := by decide +kernel
theorem dX0_peopleInWay_34 : decode cX0_peopleInWay 34 = .ok (.ifCond .eq 19, 3) := by decide +kernel
theorem dX0_peopleInWay_37 : decode cX0_peopleInWay 37 = .ok (.aload_n 0, 1) := by decide +kernel
theorem dX0_peopleInWay_38 : decode cX0_peopleInWay 38 = .ok (.iload_n 1, 1) := by decide +kernel
theorem dX0_peopleInWay_39 : decode cX0_peopleInWay 39 = .ok (.iload_n 2, 1) := by decide +kernel
theorem dX0_peopleInWay_40 : decode cX0_peopleInWay 40 = .ok (.iload 4, 2) := by decide +kernel
theorem dX0_peopleInWay_42 : decode cX0_peopleInWay 42 = .ok (.iload 5, 2) := by decide +kernel
theorem dX0_peopleInWay_44 : decode cX0_peopleInWay 44 = .ok (.invokevirtual 87, 3) := by decide +kernel
theorem dX0_peopleInWay_47 : decode cX0_peopleInWay 47 = .ok (.ifCond .eq 6, 3) := by decide +kernel
theorem dX0_peopleInWay_50 : decode cX0_peopleInWay 50 = .ok (.iinc 3 1, 3) := by decide +kernel
theorem dX0_peopleInWay_53 : decode cX0_peopleInWay 53 = .ok (.iinc 5 1, 3) := by decide +kernel
theorem dX0_peopleInWay_56 : decode cX0_peopleInWay 56 = .ok (.goto (-42), 3) := by decide +kernel
theorem dX0_peopleInWay_59 : decode cX0_peopleInWay 59 = .ok (.iinc 4 1, 3) := by decide +kernel
theorem dX0_peopleInWay_62 : decode cX0_peopleInWay 62 = .ok (.goto (-57), 3) := by decide +kernel
theorem dX0_peopleInWay_65 : decode cX0_peopleInWay 65 = .ok (.iload_n 3, 1) := by decide +kernel
theorem dX0_peopleInWay_66 : decode cX0_peopleInWay 66 = .ok (.ireturn, 1) := by decide +kernel
set_option maxRecDepth 20000 in
theorem ggX0_columnsInWay_X0_isColumnInWay : GoodIn wsX0_columnsInWay wsX0_isColumnInWay := goodIn_r _ [6, 7, 8, 9, 10, 11, 12, 13, 14, 15, 16, 17, 5, 18, 19, 20, 21, 22, 23, 24, 25, 26, 27, 28, 29] (by decide +kernel) (by decide +kernel)
set_option maxRecDepth 20000 in
theorem gX0_columnsInWay_X0_isColumnInWay : GoodIn wsX0_columnsInWay (wsV RX0 91 RX0 yX0_isColumnInWay wsX0_isColumnInWay) := goodIn_app (goodIn_of _ (by decide +kernel)) ggX0_columnsInWay_X0_isColumnInWay
theorem dX0_columnsInWay_0 : decode cX0_columnsInWay 0 = .ok (.iconst 0, 1) := by decide +kernel
theorem dX0_columnsInWay_1 : decode cX0_columnsInWay 1 = .ok (.istore_n 3, 1) := by decide +kernel
theorem dX0_columnsInWay_2 : decode cX0_columnsInWay 2 = .ok (.iconst 0, 1) := by decide +kernel
theorem dX0_columnsInWay_3 : decode cX0_columnsInWay 3 = .ok (.istore 4, 2) := by decide +kernel
theorem dX0_columnsInWay_5 : decode cX0_columnsInWay 5 = .ok (.iload 4, 2) := by decide +kernel
theorem dX0_columnsInWay_7 : decode cX0_columnsInWay 7 = .ok (.aload_n 0, 1) := by decide +kernel
theorem dX0_columnsInWay_8 : decode cX0_columnsInWay 8 = .ok (.getfield 46, 3) := by decide +kernel
theorem dX0_columnsInWay_11 : decode cX0_columnsInWay 11 = .ok (.if_icmp .ge 23, 3) := by decide +kernel
theorem dX0_columnsInWay_14 : decode cX0_columnsInWay 14 = .ok (.aload_n 0, 1) := by decide +kernel
theorem dX0_columnsInWay_15 : decode cX0_columnsInWay 15 = .ok (.iload_n 1, 1) := by decide +kernel
theorem dX0_columnsInWay_16 : decode cX0_columnsInWay 16 = .ok (.iload_n 2, 1) := by decide +kernel
theorem dX0_columnsInWay_17 : decode cX0_columnsInWay 17 = .ok (.iload 4, 2) := by decide +kernel
theorem dX0_columnsInWay_19 : decode cX0_columnsInWay 19 = .ok (.invokevirtual 91, 3) := by decide +kernel
theorem dX0_columnsInWay_22 : decode cX0_columnsInWay 22 = .ok (.ifCond .eq 6, 3) := by decide +kernel
theorem dX0_columnsInWay_25 : decode cX0_columnsInWay 25 = .ok (.iinc 3 1, 3) := by decide +kernel
theorem dX0_columnsInWay_28 : decode cX0_columnsInWay 28 = .ok (.iinc 4 1, 3) := by decide +kernel
theorem dX0_columnsInWay_31 : decode cX0_columnsInWay 31 = .ok (.goto (-26), 3) := by decide +kernel
theorem dX0_columnsInWay_34 : decode cX0_columnsInWay 34 = .ok (.iload_n 3, 1) := by decide +kernel
theorem dX0_columnsInWay_35 : decode cX0_columnsInWay 35 = .ok (.ireturn, 1) := by decide +kernel
set_option maxRecDepth 20000 in
theorem ggX0_takenBehind_X0_isTaken : GoodIn wsX0_takenBehind wsX0_isTaken := goodIn_r _ [7, 8, 32, 33, 34, 35, 36, 37, 38, 39, 40, 41] (by decide +kernel) (by decide +kernel)
set_option maxRecDepth 20000 in
theorem gX0_takenBehind_X0_isTaken : GoodIn wsX0_takenBehind (wsV RX0 66 RX0 yX0_isTaken wsX0_isTaken) := goodIn_app (goodIn_of _ (by decide +kernel)) ggX0_takenBehind_X0_isTaken
set_option maxRecDepth 20000 in
theorem ggX0_takenBehind_X0_isHeadInWay : GoodIn wsX0_takenBehind wsX0_isHeadInWay := goodIn_r _ [12, 13, 14, 15, 16, 17, 18, 19, 20, 6, 21, 2, 22, 23, 24, 25, 26, 27, 28, 29, 30, 31, 32, 33, 34, 35, 36, 37, 38, 39, 40, 41] (by decide +kernel) (by decide +kernel)
set_option maxRecDepth 20000 in
theorem gX0_takenBehind_X0_isHeadInWay : GoodIn wsX0_takenBehind (wsV RX0 87 RX0 yX0_isHeadInWay wsX0_isHeadInWay) := goodIn_app (goodIn_of _ (by decide +kernel)) ggX0_takenBehind_X0_isHeadInWay
theorem dX0_takenBehind_0 : decode cX0_takenBehind 0 = .ok (.iconst 0, 1) := by decide +kernel
theorem dX0_takenBehind_1 : decode cX0_takenBehind 1 = .ok (.istore_n 3, 1) := by decide +kernel
theorem dX0_takenBehind_2 : decode cX0_takenBehind 2 = .ok (.iload_n 1, 1) := by decide +kernel
theorem dX0_takenBehind_3 : decode cX0_takenBehind 3 = .ok (.iconst 1, 1) := by decide +kernel
theorem dX0_takenBehind_4 : decode cX0_takenBehind 4 = .ok (.iadd, 1) := by decide +kernel
theorem dX0_takenBehind_5 : decode cX0_takenBehind 5 = .ok (.istore 4, 2) := by decide +kernel
theorem dX0_takenBehind_7 : decode cX0_takenBehind 7 = .ok (.iload 4, 2) := by decide +kernel
theorem dX0_takenBehind_9 : decode cX0_takenBehind 9 = .ok (.aload_n 0, 1) := by decide +kernel
theorem dX0_takenBehind_10 : decode cX0_takenBehind 10 = .ok (.getfield 36, 3) := by decide +kernel
theorem dX0_takenBehind_13 : decode cX0_takenBehind 13 = .ok (.if_icmp .ge 57, 3) := by decide +kernel
theorem dX0_takenBehind_16 : decode cX0_takenBehind 16 = .ok (.iconst 0, 1) := by decide +kernel
theorem dX0_takenBehind_17 : decode cX0_takenBehind 17 = .ok (.istore 5, 2) := by decide +kernel
theorem dX0_takenBehind_19 : decode cX0_takenBehind 19 = .ok (.iload 5, 2) := by decide +kernel
theorem dX0_takenBehind_21 : decode cX0_takenBehind 21 = .ok (.aload_n 0, 1) := by decide +kernel
theorem dX0_takenBehind_22 : decode cX0_takenBehind 22 = .ok (.getfield 18, 3) := by decide +kernel
theorem dX0_takenBehind_25 : decode cX0_takenBehind 25 = .ok (.iload 4, 2) := by decide +kernel
theorem dX0_takenBehind_27 : decode cX0_takenBehind 27 = .ok (.iaload, 1) := by decide +kernel
theorem dX0_takenBehind_28 : decode cX0_takenBehind 28 = .ok (.if_icmp .ge 36, 3) := by decide +kernel
theorem dX0_takenBehind_31 : decode cX0_takenBehind 31 = .ok (.aload_n 0, 1) := by decide +kernel
theorem dX0_takenBehind_32 : decode cX0_takenBehind 32 = .ok (.iload 4, 2) := by decide +kernel
theorem dX0_takenBehind_34 : decode cX0_takenBehind 34 = .ok (.iload 5, 2) := by decide +kernel
theorem dX0_takenBehind_36 : decode cX0_takenBehind 36 = .ok (.invokevirtual 66, 3) := by decide +kernel
theorem dX0_takenBehind_39 : decode cX0_takenBehind 39 = .ok (.ifCond .eq 19, 3) := by decide +kernel
theorem dX0_takenBehind_42 : decode cX0_takenBehind 42 = .ok (.aload_n 0, 1) := by decide +kernel
theorem dX0_takenBehind_43 : decode cX0_takenBehind 43 = .ok (.iload 4, 2) := by decide +kernel
theorem dX0_takenBehind_45 : decode cX0_takenBehind 45 = .ok (.iload 5, 2) := by decide +kernel
theorem dX0_takenBehind_47 : decode cX0_takenBehind 47 = .ok (.iload_n 1, 1) := by decide +kernel
theorem dX0_takenBehind_48 : decode cX0_takenBehind 48 = .ok (.iload_n 2, 1) := by decide +kernel
theorem dX0_takenBehind_49 : decode cX0_takenBehind 49 = .ok (.invokevirtual 87, 3) := by decide +kernel
theorem dX0_takenBehind_52 : decode cX0_takenBehind 52 = .ok (.ifCond .eq 6, 3) := by decide +kernel
theorem dX0_takenBehind_55 : decode cX0_takenBehind 55 = .ok (.iinc 3 1, 3) := by decide +kernel
theorem dX0_takenBehind_58 : decode cX0_takenBehind 58 = .ok (.iinc 5 1, 3) := by decide +kernel
theorem dX0_takenBehind_61 : decode cX0_takenBehind 61 = .ok (.goto (-42), 3) := by decide +kernel
theorem dX0_takenBehind_64 : decode cX0_takenBehind 64 = .ok (.iinc 4 1, 3) := by decide +kernel
theorem dX0_takenBehind_67 : decode cX0_takenBehind 67 = .ok (.goto (-60), 3) := by decide +kernel
theorem dX0_takenBehind_70 : decode cX0_takenBehind 70 = .ok (.iload_n 3, 1) := by decide +kernel
theorem dX0_takenBehind_71 : decode cX0_takenBehind 71 = .ok (.ireturn, 1) := by decide +kernel
set_option maxRecDepth 20000 in
theorem ggX0_seatsBehindColumn_X0_isColumnInWay : GoodIn wsX0_seatsBehindColumn wsX0_isColumnInWay := goodIn_r _ [7, 8, 9, 10, 11, 12, 13, 14, 15, 16, 17, 18, 6, 19, 2, 20, 21, 22, 23, 24, 25, 26, 27, 28, 29] (by decide +kernel) (by decide +kernel)
set_option maxRecDepth 20000 in
theorem gX0_seatsBehindColumn_X0_isColumnInWay : GoodIn wsX0_seatsBehindColumn (wsV RX0 91 RX0 yX0_isColumnInWay wsX0_isColumnInWay) := goodIn_app (goodIn_of _ (by decide +kernel)) ggX0_seatsBehindColumn_X0_isColumnInWay
theorem dX0_seatsBehindColumn_0 : decode cX0_seatsBehindColumn 0 = .ok (.iconst 0, 1) := by decide +kernel
theorem dX0_seatsBehindColumn_1 : decode cX0_seatsBehindColumn 1 = .ok (.istore_n 2, 1) := by decide +kernel
theorem dX0_seatsBehindColumn_2 : decode cX0_seatsBehindColumn 2 = .ok (.iconst 0, 1) := by decide +kernel
theorem dX0_seatsBehindColumn_3 : decode cX0_seatsBehindColumn 3 = .ok (.istore_n 3, 1) := by decide +kernel
theorem dX0_seatsBehindColumn_4 : decode cX0_seatsBehindColumn 4 = .ok (.iload_n 3, 1) := by decide +kernel
theorem dX0_seatsBehindColumn_5 : decode cX0_seatsBehindColumn 5 = .ok (.aload_n 0, 1) := by decide +kernel
theorem dX0_seatsBehindColumn_6 : decode cX0_seatsBehindColumn 6 = .ok (.getfield 36, 3) := by decide +kernel
theorem dX0_seatsBehindColumn_9 : decode cX0_seatsBehindColumn 9 = .ok (.if_icmp .ge 43, 3) := by decide +kernel
theorem dX0_seatsBehindColumn_12 : decode cX0_seatsBehindColumn 12 = .ok (.iconst 0, 1) := by decide +kernel
theorem dX0_seatsBehindColumn_13 : decode cX0_seatsBehindColumn 13 = .ok (.istore 4, 2) := by decide +kernel
theorem dX0_seatsBehindColumn_15 : decode cX0_seatsBehindColumn 15 = .ok (.iload 4, 2) := by decide +kernel
theorem dX0_seatsBehindColumn_17 : decode cX0_seatsBehindColumn 17 = .ok (.aload_n 0, 1) := by decide +kernel
theorem dX0_seatsBehindColumn_18 : decode cX0_seatsBehindColumn 18 = .ok (.getfield 18, 3) := by decide +kernel
theorem dX0_seatsBehindColumn_21 : decode cX0_seatsBehindColumn 21 = .ok (.iload_n 3, 1) := by decide +kernel
theorem dX0_seatsBehindColumn_22 : decode cX0_seatsBehindColumn 22 = .ok (.iaload, 1) := by decide +kernel
theorem dX0_seatsBehindColumn_23 : decode cX0_seatsBehindColumn 23 = .ok (.if_icmp .ge 23, 3) := by decide +kernel
theorem dX0_seatsBehindColumn_26 : decode cX0_seatsBehindColumn 26 = .ok (.aload_n 0, 1) := by decide +kernel
theorem dX0_seatsBehindColumn_27 : decode cX0_seatsBehindColumn 27 = .ok (.iload_n 3, 1) := by decide +kernel
theorem dX0_seatsBehindColumn_28 : decode cX0_seatsBehindColumn 28 = .ok (.iload 4, 2) := by decide +kernel
theorem dX0_seatsBehindColumn_30 : decode cX0_seatsBehindColumn 30 = .ok (.iload_n 1, 1) := by decide +kernel
theorem dX0_seatsBehindColumn_31 : decode cX0_seatsBehindColumn 31 = .ok (.invokevirtual 91, 3) := by decide +kernel
theorem dX0_seatsBehindColumn_34 : decode cX0_seatsBehindColumn 34 = .ok (.ifCond .eq 6, 3) := by decide +kernel
theorem dX0_seatsBehindColumn_37 : decode cX0_seatsBehindColumn 37 = .ok (.iinc 2 1, 3) := by decide +kernel
theorem dX0_seatsBehindColumn_40 : decode cX0_seatsBehindColumn 40 = .ok (.iinc 4 1, 3) := by decide +kernel
theorem dX0_seatsBehindColumn_43 : decode cX0_seatsBehindColumn 43 = .ok (.goto (-28), 3) := by decide +kernel
theorem dX0_seatsBehindColumn_46 : decode cX0_seatsBehindColumn 46 = .ok (.iinc 3 1, 3) := by decide +kernel
theorem dX0_seatsBehindColumn_49 : decode cX0_seatsBehindColumn 49 = .ok (.goto (-45), 3) := by decide +kernel
theorem dX0_seatsBehindColumn_52 : decode cX0_seatsBehindColumn 52 = .ok (.iload_n 2, 1) := by decide +kernel
theorem dX0_seatsBehindColumn_53 : decode cX0_seatsBehindColumn 53 = .ok (.ireturn, 1) := by decide +kernel
set_option maxRecDepth 20000 in
theorem ggX1_init_X0_init : GoodIn wsX1_init wsX0_init := goodIn_r _ [9, 10, 2, 3, 11, 12, 13, 14, 15, 16, 17, 18, 19, 22, 23, 24, 25, 26, 27, 28, 29, 30, 31] (by decide +kernel) (by decide +kernel)
set_option maxRecDepth 20000 in
theorem gX1_init_X0_init_n17 : GoodIn wsX1_init (wsX0_init) := ggX1_init_X0_init
theorem dX1_init_0 : decode cX1_init 0 = .ok (.aload_n 0, 1) := by decide +kernel
theorem dX1_init_1 : decode cX1_init 1 = .ok (.invokespecial 3, 3) := by decide +kernel
theorem dX1_init_4 : decode cX1_init 4 = .ok (.aload_n 0, 1) := by decide +kernel
theorem dX1_init_5 : decode cX1_init 5 = .ok (.bipush 6, 2) := by decide +kernel
theorem dX1_init_7 : decode cX1_init 7 = .ok (.anewarray 9, 3) := by decide +kernel
theorem dX1_init_10 : decode cX1_init 10 = .ok (.putfield 11, 3) := by decide +kernel
theorem dX1_init_13 : decode cX1_init 13 = .ok (.iconst 0, 1) := by decide +kernel
theorem dX1_init_14 : decode cX1_init 14 = .ok (.istore_n 1, 1) := by decide +kernel
theorem dX1_init_15 : decode cX1_init 15 = .ok (.iload_n 1, 1) := by decide +kernel
theorem dX1_init_16 : decode cX1_init 16 = .ok (.bipush 6, 2) := by decide +kernel
theorem dX1_init_18 : decode cX1_init 18 = .ok (.if_icmp .ge 22, 3) := by decide +kernel
theorem dX1_init_21 : decode cX1_init 21 = .ok (.aload_n 0, 1) := by decide +kernel
theorem dX1_init_22 : decode cX1_init 22 = .ok (.getfield 11, 3) := by decide +kernel
theorem dX1_init_25 : decode cX1_init 25 = .ok (.iload_n 1, 1) := by decide +kernel
theorem dX1_init_26 : decode cX1_init 26 = .ok (.new 9, 3) := by decide +kernel
theorem dX1_init_29 : decode cX1_init 29 = .ok (.dup, 1) := by decide +kernel
theorem dX1_init_30 : decode cX1_init 30 = .ok (.invokespecial 17, 3) := by decide +kernel
theorem dX1_init_33 : decode cX1_init 33 = .ok (.aastore, 1) := by decide +kernel
theorem dX1_init_34 : decode cX1_init 34 = .ok (.iinc 1 1, 3) := by decide +kernel
theorem dX1_init_37 : decode cX1_init 37 = .ok (.goto (-22), 3) := by decide +kernel
theorem dX1_init_40 : decode cX1_init 40 = .ok (.return_, 1) := by decide +kernel
set_option maxRecDepth 20000 in
theorem ggX1_keep_X1_dropOldest : GoodIn wsX1_keep wsX1_dropOldest := goodIn_r _ [7, 2, 1, 27, 28] (by decide +kernel) (by decide +kernel)
set_option maxRecDepth 20000 in
theorem gX1_keep_X1_dropOldest : GoodIn wsX1_keep (wsV RX1 22 RX1 yX1_dropOldest wsX1_dropOldest) := goodIn_app (goodIn_of _ (by decide +kernel)) ggX1_keep_X1_dropOldest
set_option maxRecDepth 20000 in
theorem ggX1_keep_X0_copyFrom : GoodIn wsX1_keep wsX0_copyFrom := goodIn_r _ [12, 13, 14, 15, 16, 17, 18, 19, 20, 21, 22, 23, 24, 25, 26, 29, 30, 31, 32, 33, 34, 35, 36, 37, 38] (by decide +kernel) (by decide +kernel)
set_option maxRecDepth 20000 in
theorem gX1_keep_X0_copyFrom : GoodIn wsX1_keep (wsV RX1 25 RX0 yX0_copyFrom wsX0_copyFrom) := goodIn_app (goodIn_of _ (by decide +kernel)) ggX1_keep_X0_copyFrom
theorem dX1_keep_0 : decode cX1_keep 0 = .ok (.aload_n 0, 1) := by decide +kernel
theorem dX1_keep_1 : decode cX1_keep 1 = .ok (.getfield 18, 3) := by decide +kernel
theorem dX1_keep_4 : decode cX1_keep 4 = .ok (.bipush 6, 2) := by decide +kernel
theorem dX1_keep_6 : decode cX1_keep 6 = .ok (.if_icmp .ne 7, 3) := by decide +kernel
theorem dX1_keep_9 : decode cX1_keep 9 = .ok (.aload_n 0, 1) := by decide +kernel
theorem dX1_keep_10 : decode cX1_keep 10 = .ok (.invokevirtual 22, 3) := by decide +kernel
theorem dX1_keep_13 : decode cX1_keep 13 = .ok (.aload_n 0, 1) := by decide +kernel
theorem dX1_keep_14 : decode cX1_keep 14 = .ok (.getfield 11, 3) := by decide +kernel
theorem dX1_keep_17 : decode cX1_keep 17 = .ok (.aload_n 0, 1) := by decide +kernel
theorem dX1_keep_18 : decode cX1_keep 18 = .ok (.getfield 18, 3) := by decide +kernel
theorem dX1_keep_21 : decode cX1_keep 21 = .ok (.aaload, 1) := by decide +kernel
theorem dX1_keep_22 : decode cX1_keep 22 = .ok (.aload_n 1, 1) := by decide +kernel
theorem dX1_keep_23 : decode cX1_keep 23 = .ok (.invokevirtual 25, 3) := by decide +kernel
theorem dX1_keep_26 : decode cX1_keep 26 = .ok (.aload_n 0, 1) := by decide +kernel
theorem dX1_keep_27 : decode cX1_keep 27 = .ok (.dup, 1) := by decide +kernel
theorem dX1_keep_28 : decode cX1_keep 28 = .ok (.getfield 18, 3) := by decide +kernel
theorem dX1_keep_31 : decode cX1_keep 31 = .ok (.iconst 1, 1) := by decide +kernel
theorem dX1_keep_32 : decode cX1_keep 32 = .ok (.iadd, 1) := by decide +kernel
theorem dX1_keep_33 : decode cX1_keep 33 = .ok (.putfield 18, 3) := by decide +kernel
theorem dX1_keep_36 : decode cX1_keep 36 = .ok (.return_, 1) := by decide +kernel
theorem dX1_dropOldest_0 : decode cX1_dropOldest 0 = .ok (.aload_n 0, 1) := by decide +kernel
theorem dX1_dropOldest_1 : decode cX1_dropOldest 1 = .ok (.getfield 11, 3) := by decide +kernel
theorem dX1_dropOldest_4 : decode cX1_dropOldest 4 = .ok (.iconst 0, 1) := by decide +kernel
theorem dX1_dropOldest_5 : decode cX1_dropOldest 5 = .ok (.aaload, 1) := by decide +kernel
theorem dX1_dropOldest_6 : decode cX1_dropOldest 6 = .ok (.astore_n 1, 1) := by decide +kernel
theorem dX1_dropOldest_7 : decode cX1_dropOldest 7 = .ok (.iconst 1, 1) := by decide +kernel
theorem dX1_dropOldest_8 : decode cX1_dropOldest 8 = .ok (.istore_n 2, 1) := by decide +kernel
theorem dX1_dropOldest_9 : decode cX1_dropOldest 9 = .ok (.iload_n 2, 1) := by decide +kernel
theorem dX1_dropOldest_10 : decode cX1_dropOldest 10 = .ok (.bipush 6, 2) := by decide +kernel
theorem dX1_dropOldest_12 : decode cX1_dropOldest 12 = .ok (.if_icmp .ge 23, 3) := by decide +kernel
theorem dX1_dropOldest_15 : decode cX1_dropOldest 15 = .ok (.aload_n 0, 1) := by decide +kernel
theorem dX1_dropOldest_16 : decode cX1_dropOldest 16 = .ok (.getfield 11, 3) := by decide +kernel
theorem dX1_dropOldest_19 : decode cX1_dropOldest 19 = .ok (.iload_n 2, 1) := by decide +kernel
theorem dX1_dropOldest_20 : decode cX1_dropOldest 20 = .ok (.iconst 1, 1) := by decide +kernel
theorem dX1_dropOldest_21 : decode cX1_dropOldest 21 = .ok (.isub, 1) := by decide +kernel
theorem dX1_dropOldest_22 : decode cX1_dropOldest 22 = .ok (.aload_n 0, 1) := by decide +kernel
theorem dX1_dropOldest_23 : decode cX1_dropOldest 23 = .ok (.getfield 11, 3) := by decide +kernel
theorem dX1_dropOldest_26 : decode cX1_dropOldest 26 = .ok (.iload_n 2, 1) := by decide +kernel
theorem dX1_dropOldest_27 : decode cX1_dropOldest 27 = .ok (.aaload, 1) := by decide +kernel
theorem dX1_dropOldest_28 : decode cX1_dropOldest 28 = .ok (.aastore, 1) := by decide +kernel
theorem dX1_dropOldest_29 : decode cX1_dropOldest 29 = .ok (.iinc 2 1, 3) := by decide +kernel
theorem dX1_dropOldest_32 : decode cX1_dropOldest 32 = .ok (.goto (-23), 3) := by decide +kernel
theorem dX1_dropOldest_35 : decode cX1_dropOldest 35 = .ok (.aload_n 0, 1) := by decide +kernel
theorem dX1_dropOldest_36 : decode cX1_dropOldest 36 = .ok (.getfield 11, 3) := by decide +kernel
theorem dX1_dropOldest_39 : decode cX1_dropOldest 39 = .ok (.iconst 5, 1) := by decide +kernel
theorem dX1_dropOldest_40 : decode cX1_dropOldest 40 = .ok (.aload_n 1, 1) := by decide +kernel
theorem dX1_dropOldest_41 : decode cX1_dropOldest 41 = .ok (.aastore, 1) := by decide +kernel
theorem dX1_dropOldest_42 : decode cX1_dropOldest 42 = .ok (.aload_n 0, 1) := by decide +kernel
theorem dX1_dropOldest_43 : decode cX1_dropOldest 43 = .ok (.dup, 1) := by decide +kernel
theorem dX1_dropOldest_44 : decode cX1_dropOldest 44 = .ok (.getfield 18, 3) := by decide +kernel
theorem dX1_dropOldest_47 : decode cX1_dropOldest 47 = .ok (.iconst 1, 1) := by decide +kernel
theorem dX1_dropOldest_48 : decode cX1_dropOldest 48 = .ok (.isub, 1) := by decide +kernel
theorem dX1_dropOldest_49 : decode cX1_dropOldest 49 = .ok (.putfield 18, 3) := by decide +kernel
theorem dX1_dropOldest_52 : decode cX1_dropOldest 52 = .ok (.return_, 1) := by decide +kernel
theorem dX2_init_0 : decode cX2_init 0 = .ok (.aload_n 0, 1) := by decide +kernel
theorem dX2_init_1 : decode cX2_init 1 = .ok (.invokespecial 3, 3) := by decide +kernel
theorem dX2_init_4 : decode cX2_init 4 = .ok (.aload_n 0, 1) := by decide +kernel
theorem dX2_init_5 : decode cX2_init 5 = .ok (.bipush 60, 2) := by decide +kernel
theorem dX2_init_7 : decode cX2_init 7 = .ok (.newarray .char, 2) := by decide +kernel
theorem dX2_init_9 : decode cX2_init 9 = .ok (.putfield 9, 3) := by decide +kernel
theorem dX2_init_12 : decode cX2_init 12 = .ok (.aload_n 0, 1) := by decide +kernel
theorem dX2_init_13 : decode cX2_init 13 = .ok (.bipush 61, 2) := by decide +kernel
theorem dX2_init_15 : decode cX2_init 15 = .ok (.newarray .int, 2) := by decide +kernel
theorem dX2_init_17 : decode cX2_init 17 = .ok (.putfield 15, 3) := by decide +kernel
theorem dX2_init_20 : decode cX2_init 20 = .ok (.return_, 1) := by decide +kernel
set_option maxRecDepth 20000 in
theorem ggX3_init_X0_init : GoodIn wsX3_init wsX0_init := goodIn_r _ [13, 14, 2, 3, 8, 15, 16, 17, 18, 19, 20, 21, 22, 23, 24, 25, 26, 27, 28, 29, 30, 31, 32] (by decide +kernel) (by decide +kernel)
set_option maxRecDepth 20000 in
theorem gX3_init_X0_init_n11 : GoodIn wsX3_init (wsX0_init) := ggX3_init_X0_init
theorem dX3_init_0 : decode cX3_init 0 = .ok (.aload_n 0, 1) := by decide +kernel
theorem dX3_init_1 : decode cX3_init 1 = .ok (.invokespecial 3, 3) := by decide +kernel
theorem dX3_init_4 : decode cX3_init 4 = .ok (.aload_n 0, 1) := by decide +kernel
theorem dX3_init_5 : decode cX3_init 5 = .ok (.new 9, 3) := by decide +kernel
theorem dX3_init_8 : decode cX3_init 8 = .ok (.dup, 1) := by decide +kernel
theorem dX3_init_9 : decode cX3_init 9 = .ok (.invokespecial 11, 3) := by decide +kernel
theorem dX3_init_12 : decode cX3_init 12 = .ok (.putfield 12, 3) := by decide +kernel
theorem dX3_init_15 : decode cX3_init 15 = .ok (.aload_n 0, 1) := by decide +kernel
theorem dX3_init_16 : decode cX3_init 16 = .ok (.bipush 120, 2) := by decide +kernel
theorem dX3_init_18 : decode cX3_init 18 = .ok (.newarray .int, 2) := by decide +kernel
theorem dX3_init_20 : decode cX3_init 20 = .ok (.putfield 18, 3) := by decide +kernel
theorem dX3_init_23 : decode cX3_init 23 = .ok (.aload_n 0, 1) := by decide +kernel
theorem dX3_init_24 : decode cX3_init 24 = .ok (.bipush 120, 2) := by decide +kernel
theorem dX3_init_26 : decode cX3_init 26 = .ok (.newarray .int, 2) := by decide +kernel
theorem dX3_init_28 : decode cX3_init 28 = .ok (.putfield 22, 3) := by decide +kernel
theorem dX3_init_31 : decode cX3_init 31 = .ok (.aload_n 0, 1) := by decide +kernel
theorem dX3_init_32 : decode cX3_init 32 = .ok (.bipush 120, 2) := by decide +kernel
theorem dX3_init_34 : decode cX3_init 34 = .ok (.newarray .int, 2) := by decide +kernel
theorem dX3_init_36 : decode cX3_init 36 = .ok (.putfield 25, 3) := by decide +kernel
theorem dX3_init_39 : decode cX3_init 39 = .ok (.return_, 1) := by decide +kernel
theorem dX3_forget_0 : decode cX3_forget 0 = .ok (.aload_n 0, 1) := by decide +kernel
theorem dX3_forget_1 : decode cX3_forget 1 = .ok (.iconst 0, 1) := by decide +kernel
theorem dX3_forget_2 : decode cX3_forget 2 = .ok (.putfield 28, 3) := by decide +kernel
theorem dX3_forget_5 : decode cX3_forget 5 = .ok (.return_, 1) := by decide +kernel
set_option maxRecDepth 20000 in
theorem ggX3_look_X3_cellOf : GoodIn wsX3_look wsX3_cellOf := goodIn_r _ [11] (by decide +kernel) (by decide +kernel)
set_option maxRecDepth 20000 in
theorem gX3_look_X3_cellOf : GoodIn wsX3_look (va_wsS RX3 39 yX3_cellOf wsX3_cellOf) := goodIn_app (goodIn_of _ (by decide +kernel)) ggX3_look_X3_cellOf
set_option maxRecDepth 20000 in
theorem ggX3_look_X0_peopleInWay : GoodIn wsX3_look wsX0_peopleInWay := goodIn_r _ [16, 17, 18, 19, 20, 15, 21, 22, 23, 24, 25, 26, 27, 28, 29, 30, 31, 32, 33, 34, 35, 36, 37, 38, 39, 40, 41, 42, 43, 44, 45, 73, 74, 75, 76, 77, 78, 79, 80, 81, 82] (by decide +kernel) (by decide +kernel)
set_option maxRecDepth 20000 in
theorem gX3_look_X0_peopleInWay : GoodIn wsX3_look (wsV RX3 43 RX0 yX0_peopleInWay wsX0_peopleInWay) := goodIn_app (goodIn_of _ (by decide +kernel)) ggX3_look_X0_peopleInWay
set_option maxRecDepth 20000 in
theorem ggX3_look_X0_columnsInWay : GoodIn wsX3_look wsX0_columnsInWay := goodIn_r _ [49, 50, 51, 52, 53, 15, 54, 27, 55, 56, 28, 29, 30, 31, 57, 32, 33, 34, 35, 17, 73, 74, 75, 76, 77, 78, 79, 80, 81, 82] (by decide +kernel) (by decide +kernel)
set_option maxRecDepth 20000 in
theorem gX3_look_X0_columnsInWay : GoodIn wsX3_look (wsV RX3 46 RX0 yX0_columnsInWay wsX0_columnsInWay) := goodIn_app (goodIn_of _ (by decide +kernel)) ggX3_look_X0_columnsInWay
set_option maxRecDepth 20000 in
theorem ggX3_look_X3_rankOf : GoodIn wsX3_look wsX3_rankOf := goodIn_r _ [61, 2, 62, 29, 30, 31, 63, 64, 65, 10, 66, 5, 6, 8, 9, 11, 67, 33, 34, 15, 35, 17, 68, 69, 70, 71, 72, 73, 74, 75, 76, 77, 78, 79, 80, 81, 82] (by decide +kernel) (by decide +kernel)
set_option maxRecDepth 20000 in
theorem gX3_look_X3_rankOf : GoodIn wsX3_look (wsV RX3 49 RX3 yX3_rankOf wsX3_rankOf) := goodIn_app (goodIn_of _ (by decide +kernel)) ggX3_look_X3_rankOf
theorem dX3_look_0 : decode cX3_look 0 = .ok (.aload_n 0, 1) := by decide +kernel
theorem dX3_look_1 : decode cX3_look 1 = .ok (.getfield 28, 3) := by decide +kernel
theorem dX3_look_4 : decode cX3_look 4 = .ok (.ifCond .eq 4, 3) := by decide +kernel
theorem dX3_look_7 : decode cX3_look 7 = .ok (.return_, 1) := by decide +kernel
theorem dX3_look_8 : decode cX3_look 8 = .ok (.iconst 0, 1) := by decide +kernel
theorem dX3_look_9 : decode cX3_look 9 = .ok (.istore_n 1, 1) := by decide +kernel
theorem dX3_look_10 : decode cX3_look 10 = .ok (.iload_n 1, 1) := by decide +kernel
theorem dX3_look_11 : decode cX3_look 11 = .ok (.aload_n 0, 1) := by decide +kernel
theorem dX3_look_12 : decode cX3_look 12 = .ok (.getfield 12, 3) := by decide +kernel
theorem dX3_look_15 : decode cX3_look 15 = .ok (.getfield 32, 3) := by decide +kernel
theorem dX3_look_18 : decode cX3_look 18 = .ok (.if_icmp .ge 78, 3) := by decide +kernel
theorem dX3_look_21 : decode cX3_look 21 = .ok (.iconst 0, 1) := by decide +kernel
theorem dX3_look_22 : decode cX3_look 22 = .ok (.istore_n 2, 1) := by decide +kernel
theorem dX3_look_23 : decode cX3_look 23 = .ok (.iload_n 2, 1) := by decide +kernel
theorem dX3_look_24 : decode cX3_look 24 = .ok (.aload_n 0, 1) := by decide +kernel
theorem dX3_look_25 : decode cX3_look 25 = .ok (.getfield 12, 3) := by decide +kernel
theorem dX3_look_28 : decode cX3_look 28 = .ok (.getfield 36, 3) := by decide +kernel
theorem dX3_look_31 : decode cX3_look 31 = .ok (.iload_n 1, 1) := by decide +kernel
theorem dX3_look_32 : decode cX3_look 32 = .ok (.iaload, 1) := by decide +kernel
theorem dX3_look_33 : decode cX3_look 33 = .ok (.if_icmp .ge 57, 3) := by decide +kernel
theorem dX3_look_36 : decode cX3_look 36 = .ok (.iload_n 1, 1) := by decide +kernel
theorem dX3_look_37 : decode cX3_look 37 = .ok (.iload_n 2, 1) := by decide +kernel
theorem dX3_look_38 : decode cX3_look 38 = .ok (.invokestatic 39, 3) := by decide +kernel
theorem dX3_look_41 : decode cX3_look 41 = .ok (.istore_n 3, 1) := by decide +kernel
theorem dX3_look_42 : decode cX3_look 42 = .ok (.aload_n 0, 1) := by decide +kernel
theorem dX3_look_43 : decode cX3_look 43 = .ok (.getfield 18, 3) := by decide +kernel
theorem dX3_look_46 : decode cX3_look 46 = .ok (.iload_n 3, 1) := by decide +kernel
theorem dX3_look_47 : decode cX3_look 47 = .ok (.aload_n 0, 1) := by decide +kernel
theorem dX3_look_48 : decode cX3_look 48 = .ok (.getfield 12, 3) := by decide +kernel
theorem dX3_look_51 : decode cX3_look 51 = .ok (.iload_n 1, 1) := by decide +kernel
theorem dX3_look_52 : decode cX3_look 52 = .ok (.iload_n 2, 1) := by decide +kernel
theorem dX3_look_53 : decode cX3_look 53 = .ok (.invokevirtual 43, 3) := by decide +kernel
theorem dX3_look_56 : decode cX3_look 56 = .ok (.iastore, 1) := by decide +kernel
theorem dX3_look_57 : decode cX3_look 57 = .ok (.aload_n 0, 1) := by decide +kernel
theorem dX3_look_58 : decode cX3_look 58 = .ok (.getfield 22, 3) := by decide +kernel
theorem dX3_look_61 : decode cX3_look 61 = .ok (.iload_n 3, 1) := by decide +kernel
theorem dX3_look_62 : decode cX3_look 62 = .ok (.aload_n 0, 1) := by decide +kernel
theorem dX3_look_63 : decode cX3_look 63 = .ok (.getfield 12, 3) := by decide +kernel
theorem dX3_look_66 : decode cX3_look 66 = .ok (.iload_n 1, 1) := by decide +kernel
theorem dX3_look_67 : decode cX3_look 67 = .ok (.iload_n 2, 1) := by decide +kernel
theorem dX3_look_68 : decode cX3_look 68 = .ok (.invokevirtual 46, 3) := by decide +kernel
theorem dX3_look_71 : decode cX3_look 71 = .ok (.iastore, 1) := by decide +kernel
theorem dX3_look_72 : decode cX3_look 72 = .ok (.aload_n 0, 1) := by decide +kernel
theorem dX3_look_73 : decode cX3_look 73 = .ok (.getfield 25, 3) := by decide +kernel
theorem dX3_look_76 : decode cX3_look 76 = .ok (.iload_n 3, 1) := by decide +kernel
theorem dX3_look_77 : decode cX3_look 77 = .ok (.aload_n 0, 1) := by decide +kernel
theorem dX3_look_78 : decode cX3_look 78 = .ok (.iload_n 1, 1) := by decide +kernel
theorem dX3_look_79 : decode cX3_look 79 = .ok (.iload_n 2, 1) := by decide +kernel
theorem dX3_look_80 : decode cX3_look 80 = .ok (.invokevirtual 49, 3) := by decide +kernel
theorem dX3_look_83 : decode cX3_look 83 = .ok (.iastore, 1) := by decide +kernel
theorem dX3_look_84 : decode cX3_look 84 = .ok (.iinc 2 1, 3) := by decide +kernel
theorem dX3_look_87 : decode cX3_look 87 = .ok (.goto (-64), 3) := by decide +kernel
theorem dX3_look_90 : decode cX3_look 90 = .ok (.iinc 1 1, 3) := by decide +kernel
theorem dX3_look_93 : decode cX3_look 93 = .ok (.goto (-83), 3) := by decide +kernel
theorem dX3_look_96 : decode cX3_look 96 = .ok (.aload_n 0, 1) := by decide +kernel
theorem dX3_look_97 : decode cX3_look 97 = .ok (.iconst 1, 1) := by decide +kernel
theorem dX3_look_98 : decode cX3_look 98 = .ok (.putfield 28, 3) := by decide +kernel
theorem dX3_look_101 : decode cX3_look 101 = .ok (.return_, 1) := by decide +kernel
theorem dX3_cellOf_0 : decode cX3_cellOf 0 = .ok (.iload_n 0, 1) := by decide +kernel
theorem dX3_cellOf_1 : decode cX3_cellOf 1 = .ok (.bipush 12, 2) := by decide +kernel
theorem dX3_cellOf_3 : decode cX3_cellOf 3 = .ok (.imul, 1) := by decide +kernel
theorem dX3_cellOf_4 : decode cX3_cellOf 4 = .ok (.iload_n 1, 1) := by decide +kernel
theorem dX3_cellOf_5 : decode cX3_cellOf 5 = .ok (.iadd, 1) := by decide +kernel
theorem dX3_cellOf_6 : decode cX3_cellOf 6 = .ok (.ireturn, 1) := by decide +kernel
set_option maxRecDepth 20000 in
theorem ggX3_rankOf_X3_allInWay : GoodIn wsX3_rankOf wsX3_allInWay := goodIn_r _ [10, 11, 12, 13, 14, 9, 15, 22, 23, 24, 25, 26] (by decide +kernel) (by decide +kernel)
set_option maxRecDepth 20000 in
theorem gX3_rankOf_X3_allInWay : GoodIn wsX3_rankOf (wsV RX3 52 RX3 yX3_allInWay wsX3_allInWay) := goodIn_app (goodIn_of _ (by decide +kernel)) ggX3_rankOf_X3_allInWay
set_option maxRecDepth 20000 in
theorem ggX3_rankOf_X0_sideOf : GoodIn wsX3_rankOf wsX0_sideOf := goodIn_r _ [20, 21, 27, 28, 29, 30, 31, 32, 33, 34, 35, 36] (by decide +kernel) (by decide +kernel)
set_option maxRecDepth 20000 in
theorem gX3_rankOf_X0_sideOf : GoodIn wsX3_rankOf (wsV RX3 55 RX0 yX0_sideOf wsX0_sideOf) := goodIn_app (goodIn_of _ (by decide +kernel)) ggX3_rankOf_X0_sideOf
theorem dX3_rankOf_0 : decode cX3_rankOf 0 = .ok (.aload_n 0, 1) := by decide +kernel
theorem dX3_rankOf_1 : decode cX3_rankOf 1 = .ok (.iload_n 1, 1) := by decide +kernel
theorem dX3_rankOf_2 : decode cX3_rankOf 2 = .ok (.iload_n 2, 1) := by decide +kernel
theorem dX3_rankOf_3 : decode cX3_rankOf 3 = .ok (.invokevirtual 52, 3) := by decide +kernel
theorem dX3_rankOf_6 : decode cX3_rankOf 6 = .ok (.bipush 10, 2) := by decide +kernel
theorem dX3_rankOf_8 : decode cX3_rankOf 8 = .ok (.imul, 1) := by decide +kernel
theorem dX3_rankOf_9 : decode cX3_rankOf 9 = .ok (.iload_n 1, 1) := by decide +kernel
theorem dX3_rankOf_10 : decode cX3_rankOf 10 = .ok (.iadd, 1) := by decide +kernel
theorem dX3_rankOf_11 : decode cX3_rankOf 11 = .ok (.istore_n 3, 1) := by decide +kernel
theorem dX3_rankOf_12 : decode cX3_rankOf 12 = .ok (.iload_n 3, 1) := by decide +kernel
theorem dX3_rankOf_13 : decode cX3_rankOf 13 = .ok (.bipush 12, 2) := by decide +kernel
theorem dX3_rankOf_15 : decode cX3_rankOf 15 = .ok (.imul, 1) := by decide +kernel
theorem dX3_rankOf_16 : decode cX3_rankOf 16 = .ok (.aload_n 0, 1) := by decide +kernel
theorem dX3_rankOf_17 : decode cX3_rankOf 17 = .ok (.getfield 12, 3) := by decide +kernel
theorem dX3_rankOf_20 : decode cX3_rankOf 20 = .ok (.iload_n 1, 1) := by decide +kernel
theorem dX3_rankOf_21 : decode cX3_rankOf 21 = .ok (.iload_n 2, 1) := by decide +kernel
theorem dX3_rankOf_22 : decode cX3_rankOf 22 = .ok (.invokevirtual 55, 3) := by decide +kernel
theorem dX3_rankOf_25 : decode cX3_rankOf 25 = .ok (.invokestatic 58, 3) := by decide +kernel
theorem dX3_rankOf_28 : decode cX3_rankOf 28 = .ok (.iadd, 1) := by decide +kernel
theorem dX3_rankOf_29 : decode cX3_rankOf 29 = .ok (.istore_n 3, 1) := by decide +kernel
theorem dX3_rankOf_30 : decode cX3_rankOf 30 = .ok (.iload_n 3, 1) := by decide +kernel
theorem dX3_rankOf_31 : decode cX3_rankOf 31 = .ok (.bipush 12, 2) := by decide +kernel
theorem dX3_rankOf_33 : decode cX3_rankOf 33 = .ok (.imul, 1) := by decide +kernel
theorem dX3_rankOf_34 : decode cX3_rankOf 34 = .ok (.iload_n 2, 1) := by decide +kernel
theorem dX3_rankOf_35 : decode cX3_rankOf 35 = .ok (.iadd, 1) := by decide +kernel
theorem dX3_rankOf_36 : decode cX3_rankOf 36 = .ok (.ireturn, 1) := by decide +kernel
set_option maxRecDepth 20000 in
theorem ggX3_allInWay_X3_cellOf : GoodIn wsX3_allInWay wsX3_cellOf := goodIn_r _ [6] (by decide +kernel) (by decide +kernel)
set_option maxRecDepth 20000 in
theorem gX3_allInWay_X3_cellOf : GoodIn wsX3_allInWay (va_wsS RX3 39 yX3_cellOf wsX3_cellOf) := goodIn_app (goodIn_of _ (by decide +kernel)) ggX3_allInWay_X3_cellOf
theorem dX3_allInWay_0 : decode cX3_allInWay 0 = .ok (.iload_n 1, 1) := by decide +kernel
theorem dX3_allInWay_1 : decode cX3_allInWay 1 = .ok (.iload_n 2, 1) := by decide +kernel
theorem dX3_allInWay_2 : decode cX3_allInWay 2 = .ok (.invokestatic 39, 3) := by decide +kernel
theorem dX3_allInWay_5 : decode cX3_allInWay 5 = .ok (.istore_n 3, 1) := by decide +kernel
theorem dX3_allInWay_6 : decode cX3_allInWay 6 = .ok (.aload_n 0, 1) := by decide +kernel
theorem dX3_allInWay_7 : decode cX3_allInWay 7 = .ok (.getfield 18, 3) := by decide +kernel
theorem dX3_allInWay_10 : decode cX3_allInWay 10 = .ok (.iload_n 3, 1) := by decide +kernel
theorem dX3_allInWay_11 : decode cX3_allInWay 11 = .ok (.iaload, 1) := by decide +kernel
theorem dX3_allInWay_12 : decode cX3_allInWay 12 = .ok (.aload_n 0, 1) := by decide +kernel
theorem dX3_allInWay_13 : decode cX3_allInWay 13 = .ok (.getfield 22, 3) := by decide +kernel
theorem dX3_allInWay_16 : decode cX3_allInWay 16 = .ok (.iload_n 3, 1) := by decide +kernel
theorem dX3_allInWay_17 : decode cX3_allInWay 17 = .ok (.iaload, 1) := by decide +kernel
theorem dX3_allInWay_18 : decode cX3_allInWay 18 = .ok (.iadd, 1) := by decide +kernel
theorem dX3_allInWay_19 : decode cX3_allInWay 19 = .ok (.ireturn, 1) := by decide +kernel
set_option maxRecDepth 20000 in
theorem ggX3_sees_X3_allInWay : GoodIn wsX3_sees wsX3_allInWay := goodIn_r _ [5, 6, 7, 8, 9, 4, 10, 11, 12, 13, 14, 15] (by decide +kernel) (by decide +kernel)
set_option maxRecDepth 20000 in
theorem gX3_sees_X3_allInWay : GoodIn wsX3_sees (wsV RX3 52 RX3 yX3_allInWay wsX3_allInWay) := goodIn_app (goodIn_of _ (by decide +kernel)) ggX3_sees_X3_allInWay
theorem dX3_sees_0 : decode cX3_sees 0 = .ok (.aload_n 0, 1) := by decide +kernel
theorem dX3_sees_1 : decode cX3_sees 1 = .ok (.iload_n 1, 1) := by decide +kernel
theorem dX3_sees_2 : decode cX3_sees 2 = .ok (.iload_n 2, 1) := by decide +kernel
theorem dX3_sees_3 : decode cX3_sees 3 = .ok (.invokevirtual 52, 3) := by decide +kernel
theorem dX3_sees_6 : decode cX3_sees 6 = .ok (.ifCond .ne 7, 3) := by decide +kernel
theorem dX3_sees_9 : decode cX3_sees 9 = .ok (.iconst 1, 1) := by decide +kernel
theorem dX3_sees_10 : decode cX3_sees 10 = .ok (.goto 4, 3) := by decide +kernel
theorem dX3_sees_13 : decode cX3_sees 13 = .ok (.iconst 0, 1) := by decide +kernel
theorem dX3_sees_14 : decode cX3_sees 14 = .ok (.ireturn, 1) := by decide +kernel
set_option maxRecDepth 20000 in
theorem ggX3_seeingInRow_X3_sees : GoodIn wsX3_seeingInRow wsX3_sees := goodIn_r _ [7, 8, 9, 10, 6, 11, 12, 13, 14, 15, 16, 17, 18, 19, 20, 21] (by decide +kernel) (by decide +kernel)
set_option maxRecDepth 20000 in
theorem gX3_seeingInRow_X3_sees : GoodIn wsX3_seeingInRow (wsV RX3 64 RX3 yX3_sees wsX3_sees) := goodIn_app (goodIn_of _ (by decide +kernel)) ggX3_seeingInRow_X3_sees
theorem dX3_seeingInRow_0 : decode cX3_seeingInRow 0 = .ok (.iconst 0, 1) := by decide +kernel
theorem dX3_seeingInRow_1 : decode cX3_seeingInRow 1 = .ok (.istore_n 2, 1) := by decide +kernel
theorem dX3_seeingInRow_2 : decode cX3_seeingInRow 2 = .ok (.iconst 0, 1) := by decide +kernel
theorem dX3_seeingInRow_3 : decode cX3_seeingInRow 3 = .ok (.istore_n 3, 1) := by decide +kernel
theorem dX3_seeingInRow_4 : decode cX3_seeingInRow 4 = .ok (.iload_n 3, 1) := by decide +kernel
theorem dX3_seeingInRow_5 : decode cX3_seeingInRow 5 = .ok (.aload_n 0, 1) := by decide +kernel
theorem dX3_seeingInRow_6 : decode cX3_seeingInRow 6 = .ok (.getfield 12, 3) := by decide +kernel
theorem dX3_seeingInRow_9 : decode cX3_seeingInRow 9 = .ok (.getfield 36, 3) := by decide +kernel
theorem dX3_seeingInRow_12 : decode cX3_seeingInRow 12 = .ok (.iload_n 1, 1) := by decide +kernel
theorem dX3_seeingInRow_13 : decode cX3_seeingInRow 13 = .ok (.iaload, 1) := by decide +kernel
theorem dX3_seeingInRow_14 : decode cX3_seeingInRow 14 = .ok (.if_icmp .ge 21, 3) := by decide +kernel
theorem dX3_seeingInRow_17 : decode cX3_seeingInRow 17 = .ok (.aload_n 0, 1) := by decide +kernel
theorem dX3_seeingInRow_18 : decode cX3_seeingInRow 18 = .ok (.iload_n 1, 1) := by decide +kernel
theorem dX3_seeingInRow_19 : decode cX3_seeingInRow 19 = .ok (.iload_n 3, 1) := by decide +kernel
theorem dX3_seeingInRow_20 : decode cX3_seeingInRow 20 = .ok (.invokevirtual 64, 3) := by decide +kernel
theorem dX3_seeingInRow_23 : decode cX3_seeingInRow 23 = .ok (.ifCond .eq 6, 3) := by decide +kernel
theorem dX3_seeingInRow_26 : decode cX3_seeingInRow 26 = .ok (.iinc 2 1, 3) := by decide +kernel
theorem dX3_seeingInRow_29 : decode cX3_seeingInRow 29 = .ok (.iinc 3 1, 3) := by decide +kernel
theorem dX3_seeingInRow_32 : decode cX3_seeingInRow 32 = .ok (.goto (-28), 3) := by decide +kernel
theorem dX3_seeingInRow_35 : decode cX3_seeingInRow 35 = .ok (.iload_n 2, 1) := by decide +kernel
theorem dX3_seeingInRow_36 : decode cX3_seeingInRow 36 = .ok (.ireturn, 1) := by decide +kernel
set_option maxRecDepth 20000 in
theorem ggX3_seeing_X3_seeingInRow : GoodIn wsX3_seeing wsX3_seeingInRow := goodIn_r _ [7, 1, 8, 9, 10, 11, 6, 12, 13, 14, 15, 16, 17, 18, 19, 20, 21, 22, 23, 24, 25, 26, 27, 28, 29, 30, 31, 32, 33, 34, 35, 36] (by decide +kernel) (by decide +kernel)
set_option maxRecDepth 20000 in
theorem gX3_seeing_X3_seeingInRow : GoodIn wsX3_seeing (wsV RX3 68 RX3 yX3_seeingInRow wsX3_seeingInRow) := goodIn_app (goodIn_of _ (by decide +kernel)) ggX3_seeing_X3_seeingInRow
theorem dX3_seeing_0 : decode cX3_seeing 0 = .ok (.iconst 0, 1) := by decide +kernel
theorem dX3_seeing_1 : decode cX3_seeing 1 = .ok (.istore_n 1, 1) := by decide +kernel
theorem dX3_seeing_2 : decode cX3_seeing 2 = .ok (.iconst 0, 1) := by decide +kernel
theorem dX3_seeing_3 : decode cX3_seeing 3 = .ok (.istore_n 2, 1) := by decide +kernel
theorem dX3_seeing_4 : decode cX3_seeing 4 = .ok (.iload_n 2, 1) := by decide +kernel
theorem dX3_seeing_5 : decode cX3_seeing 5 = .ok (.aload_n 0, 1) := by decide +kernel
theorem dX3_seeing_6 : decode cX3_seeing 6 = .ok (.getfield 12, 3) := by decide +kernel
theorem dX3_seeing_9 : decode cX3_seeing 9 = .ok (.getfield 32, 3) := by decide +kernel
theorem dX3_seeing_12 : decode cX3_seeing 12 = .ok (.if_icmp .ge 17, 3) := by decide +kernel
theorem dX3_seeing_15 : decode cX3_seeing 15 = .ok (.iload_n 1, 1) := by decide +kernel
theorem dX3_seeing_16 : decode cX3_seeing 16 = .ok (.aload_n 0, 1) := by decide +kernel
theorem dX3_seeing_17 : decode cX3_seeing 17 = .ok (.iload_n 2, 1) := by decide +kernel
theorem dX3_seeing_18 : decode cX3_seeing 18 = .ok (.invokevirtual 68, 3) := by decide +kernel
theorem dX3_seeing_21 : decode cX3_seeing 21 = .ok (.iadd, 1) := by decide +kernel
theorem dX3_seeing_22 : decode cX3_seeing 22 = .ok (.istore_n 1, 1) := by decide +kernel
theorem dX3_seeing_23 : decode cX3_seeing 23 = .ok (.iinc 2 1, 3) := by decide +kernel
theorem dX3_seeing_26 : decode cX3_seeing 26 = .ok (.goto (-22), 3) := by decide +kernel
theorem dX3_seeing_29 : decode cX3_seeing 29 = .ok (.iload_n 1, 1) := by decide +kernel
theorem dX3_seeing_30 : decode cX3_seeing 30 = .ok (.ireturn, 1) := by decide +kernel
set_option maxRecDepth 20000 in
theorem ggX3_takenSeeing_X0_isTaken : GoodIn wsX3_takenSeeing wsX0_isTaken := goodIn_r _ [8, 9, 29, 30, 31, 32, 33, 34, 35, 36, 37, 38] (by decide +kernel) (by decide +kernel)
set_option maxRecDepth 20000 in
theorem gX3_takenSeeing_X0_isTaken : GoodIn wsX3_takenSeeing (wsV RX3 71 RX0 yX0_isTaken wsX0_isTaken) := goodIn_app (goodIn_of _ (by decide +kernel)) ggX3_takenSeeing_X0_isTaken
set_option maxRecDepth 20000 in
theorem ggX3_takenSeeing_X3_sees : GoodIn wsX3_takenSeeing wsX3_sees := goodIn_r _ [14, 15, 16, 17, 13, 18, 19, 20, 21, 22, 23, 24, 25, 26, 27, 28] (by decide +kernel) (by decide +kernel)
set_option maxRecDepth 20000 in
theorem gX3_takenSeeing_X3_sees : GoodIn wsX3_takenSeeing (wsV RX3 64 RX3 yX3_sees wsX3_sees) := goodIn_app (goodIn_of _ (by decide +kernel)) ggX3_takenSeeing_X3_sees
theorem dX3_takenSeeing_0 : decode cX3_takenSeeing 0 = .ok (.iconst 0, 1) := by decide +kernel
theorem dX3_takenSeeing_1 : decode cX3_takenSeeing 1 = .ok (.istore_n 1, 1) := by decide +kernel
theorem dX3_takenSeeing_2 : decode cX3_takenSeeing 2 = .ok (.iconst 0, 1) := by decide +kernel
theorem dX3_takenSeeing_3 : decode cX3_takenSeeing 3 = .ok (.istore_n 2, 1) := by decide +kernel
theorem dX3_takenSeeing_4 : decode cX3_takenSeeing 4 = .ok (.iload_n 2, 1) := by decide +kernel
theorem dX3_takenSeeing_5 : decode cX3_takenSeeing 5 = .ok (.aload_n 0, 1) := by decide +kernel
theorem dX3_takenSeeing_6 : decode cX3_takenSeeing 6 = .ok (.getfield 12, 3) := by decide +kernel
theorem dX3_takenSeeing_9 : decode cX3_takenSeeing 9 = .ok (.getfield 32, 3) := by decide +kernel
theorem dX3_takenSeeing_12 : decode cX3_takenSeeing 12 = .ok (.if_icmp .ge 54, 3) := by decide +kernel
theorem dX3_takenSeeing_15 : decode cX3_takenSeeing 15 = .ok (.iconst 0, 1) := by decide +kernel
theorem dX3_takenSeeing_16 : decode cX3_takenSeeing 16 = .ok (.istore_n 3, 1) := by decide +kernel
theorem dX3_takenSeeing_17 : decode cX3_takenSeeing 17 = .ok (.iload_n 3, 1) := by decide +kernel
theorem dX3_takenSeeing_18 : decode cX3_takenSeeing 18 = .ok (.aload_n 0, 1) := by decide +kernel
theorem dX3_takenSeeing_19 : decode cX3_takenSeeing 19 = .ok (.getfield 12, 3) := by decide +kernel
theorem dX3_takenSeeing_22 : decode cX3_takenSeeing 22 = .ok (.getfield 36, 3) := by decide +kernel
theorem dX3_takenSeeing_25 : decode cX3_takenSeeing 25 = .ok (.iload_n 2, 1) := by decide +kernel
theorem dX3_takenSeeing_26 : decode cX3_takenSeeing 26 = .ok (.iaload, 1) := by decide +kernel
theorem dX3_takenSeeing_27 : decode cX3_takenSeeing 27 = .ok (.if_icmp .ge 33, 3) := by decide +kernel
theorem dX3_takenSeeing_30 : decode cX3_takenSeeing 30 = .ok (.aload_n 0, 1) := by decide +kernel
theorem dX3_takenSeeing_31 : decode cX3_takenSeeing 31 = .ok (.getfield 12, 3) := by decide +kernel
theorem dX3_takenSeeing_34 : decode cX3_takenSeeing 34 = .ok (.iload_n 2, 1) := by decide +kernel
theorem dX3_takenSeeing_35 : decode cX3_takenSeeing 35 = .ok (.iload_n 3, 1) := by decide +kernel
theorem dX3_takenSeeing_36 : decode cX3_takenSeeing 36 = .ok (.invokevirtual 71, 3) := by decide +kernel
theorem dX3_takenSeeing_39 : decode cX3_takenSeeing 39 = .ok (.ifCond .eq 15, 3) := by decide +kernel
theorem dX3_takenSeeing_42 : decode cX3_takenSeeing 42 = .ok (.aload_n 0, 1) := by decide +kernel
theorem dX3_takenSeeing_43 : decode cX3_takenSeeing 43 = .ok (.iload_n 2, 1) := by decide +kernel
theorem dX3_takenSeeing_44 : decode cX3_takenSeeing 44 = .ok (.iload_n 3, 1) := by decide +kernel
theorem dX3_takenSeeing_45 : decode cX3_takenSeeing 45 = .ok (.invokevirtual 64, 3) := by decide +kernel
theorem dX3_takenSeeing_48 : decode cX3_takenSeeing 48 = .ok (.ifCond .eq 6, 3) := by decide +kernel
theorem dX3_takenSeeing_51 : decode cX3_takenSeeing 51 = .ok (.iinc 1 1, 3) := by decide +kernel
theorem dX3_takenSeeing_54 : decode cX3_takenSeeing 54 = .ok (.iinc 3 1, 3) := by decide +kernel
theorem dX3_takenSeeing_57 : decode cX3_takenSeeing 57 = .ok (.goto (-40), 3) := by decide +kernel
theorem dX3_takenSeeing_60 : decode cX3_takenSeeing 60 = .ok (.iinc 2 1, 3) := by decide +kernel
theorem dX3_takenSeeing_63 : decode cX3_takenSeeing 63 = .ok (.goto (-59), 3) := by decide +kernel
theorem dX3_takenSeeing_66 : decode cX3_takenSeeing 66 = .ok (.iload_n 1, 1) := by decide +kernel
theorem dX3_takenSeeing_67 : decode cX3_takenSeeing 67 = .ok (.ireturn, 1) := by decide +kernel
set_option maxRecDepth 20000 in
theorem ggX3_pairsInWay_X0_isTaken : GoodIn wsX3_pairsInWay wsX0_isTaken := goodIn_r _ [9, 10, 20, 21, 22, 23, 24, 25, 26, 27, 28, 29] (by decide +kernel) (by decide +kernel)
set_option maxRecDepth 20000 in
theorem gX3_pairsInWay_X0_isTaken : GoodIn wsX3_pairsInWay (wsV RX3 71 RX0 yX0_isTaken wsX0_isTaken) := goodIn_app (goodIn_of _ (by decide +kernel)) ggX3_pairsInWay_X0_isTaken
set_option maxRecDepth 20000 in
theorem ggX3_pairsInWay_X3_cellOf : GoodIn wsX3_pairsInWay wsX3_cellOf := goodIn_r _ [14] (by decide +kernel) (by decide +kernel)
set_option maxRecDepth 20000 in
theorem gX3_pairsInWay_X3_cellOf : GoodIn wsX3_pairsInWay (va_wsS RX3 39 yX3_cellOf wsX3_cellOf) := goodIn_app (goodIn_of _ (by decide +kernel)) ggX3_pairsInWay_X3_cellOf
theorem dX3_pairsInWay_0 : decode cX3_pairsInWay 0 = .ok (.iconst 0, 1) := by decide +kernel
theorem dX3_pairsInWay_1 : decode cX3_pairsInWay 1 = .ok (.istore_n 1, 1) := by decide +kernel
theorem dX3_pairsInWay_2 : decode cX3_pairsInWay 2 = .ok (.iconst 0, 1) := by decide +kernel
theorem dX3_pairsInWay_3 : decode cX3_pairsInWay 3 = .ok (.istore_n 2, 1) := by decide +kernel
theorem dX3_pairsInWay_4 : decode cX3_pairsInWay 4 = .ok (.iload_n 2, 1) := by decide +kernel
theorem dX3_pairsInWay_5 : decode cX3_pairsInWay 5 = .ok (.aload_n 0, 1) := by decide +kernel
theorem dX3_pairsInWay_6 : decode cX3_pairsInWay 6 = .ok (.getfield 12, 3) := by decide +kernel
theorem dX3_pairsInWay_9 : decode cX3_pairsInWay 9 = .ok (.getfield 32, 3) := by decide +kernel
theorem dX3_pairsInWay_12 : decode cX3_pairsInWay 12 = .ok (.if_icmp .ge 55, 3) := by decide +kernel
theorem dX3_pairsInWay_15 : decode cX3_pairsInWay 15 = .ok (.iconst 0, 1) := by decide +kernel
theorem dX3_pairsInWay_16 : decode cX3_pairsInWay 16 = .ok (.istore_n 3, 1) := by decide +kernel
theorem dX3_pairsInWay_17 : decode cX3_pairsInWay 17 = .ok (.iload_n 3, 1) := by decide +kernel
theorem dX3_pairsInWay_18 : decode cX3_pairsInWay 18 = .ok (.aload_n 0, 1) := by decide +kernel
theorem dX3_pairsInWay_19 : decode cX3_pairsInWay 19 = .ok (.getfield 12, 3) := by decide +kernel
theorem dX3_pairsInWay_22 : decode cX3_pairsInWay 22 = .ok (.getfield 36, 3) := by decide +kernel
theorem dX3_pairsInWay_25 : decode cX3_pairsInWay 25 = .ok (.iload_n 2, 1) := by decide +kernel
theorem dX3_pairsInWay_26 : decode cX3_pairsInWay 26 = .ok (.iaload, 1) := by decide +kernel
theorem dX3_pairsInWay_27 : decode cX3_pairsInWay 27 = .ok (.if_icmp .ge 34, 3) := by decide +kernel
theorem dX3_pairsInWay_30 : decode cX3_pairsInWay 30 = .ok (.aload_n 0, 1) := by decide +kernel
theorem dX3_pairsInWay_31 : decode cX3_pairsInWay 31 = .ok (.getfield 12, 3) := by decide +kernel
theorem dX3_pairsInWay_34 : decode cX3_pairsInWay 34 = .ok (.iload_n 2, 1) := by decide +kernel
theorem dX3_pairsInWay_35 : decode cX3_pairsInWay 35 = .ok (.iload_n 3, 1) := by decide +kernel
theorem dX3_pairsInWay_36 : decode cX3_pairsInWay 36 = .ok (.invokevirtual 71, 3) := by decide +kernel
theorem dX3_pairsInWay_39 : decode cX3_pairsInWay 39 = .ok (.ifCond .eq 16, 3) := by decide +kernel
theorem dX3_pairsInWay_42 : decode cX3_pairsInWay 42 = .ok (.iload_n 1, 1) := by decide +kernel
theorem dX3_pairsInWay_43 : decode cX3_pairsInWay 43 = .ok (.aload_n 0, 1) := by decide +kernel
theorem dX3_pairsInWay_44 : decode cX3_pairsInWay 44 = .ok (.getfield 18, 3) := by decide +kernel
theorem dX3_pairsInWay_47 : decode cX3_pairsInWay 47 = .ok (.iload_n 2, 1) := by decide +kernel
theorem dX3_pairsInWay_48 : decode cX3_pairsInWay 48 = .ok (.iload_n 3, 1) := by decide +kernel
theorem dX3_pairsInWay_49 : decode cX3_pairsInWay 49 = .ok (.invokestatic 39, 3) := by decide +kernel
theorem dX3_pairsInWay_52 : decode cX3_pairsInWay 52 = .ok (.iaload, 1) := by decide +kernel
theorem dX3_pairsInWay_53 : decode cX3_pairsInWay 53 = .ok (.iadd, 1) := by decide +kernel
theorem dX3_pairsInWay_54 : decode cX3_pairsInWay 54 = .ok (.istore_n 1, 1) := by decide +kernel
theorem dX3_pairsInWay_55 : decode cX3_pairsInWay 55 = .ok (.iinc 3 1, 3) := by decide +kernel
theorem dX3_pairsInWay_58 : decode cX3_pairsInWay 58 = .ok (.goto (-41), 3) := by decide +kernel
theorem dX3_pairsInWay_61 : decode cX3_pairsInWay 61 = .ok (.iinc 2 1, 3) := by decide +kernel
theorem dX3_pairsInWay_64 : decode cX3_pairsInWay 64 = .ok (.goto (-60), 3) := by decide +kernel
theorem dX3_pairsInWay_67 : decode cX3_pairsInWay 67 = .ok (.iload_n 1, 1) := by decide +kernel
theorem dX3_pairsInWay_68 : decode cX3_pairsInWay 68 = .ok (.ireturn, 1) := by decide +kernel
set_option maxRecDepth 20000 in
theorem ggX3_placeOf_X3_cellOf : GoodIn wsX3_placeOf wsX3_cellOf := goodIn_r _ [8] (by decide +kernel) (by decide +kernel)
set_option maxRecDepth 20000 in
theorem gX3_placeOf_X3_cellOf : GoodIn wsX3_placeOf (va_wsS RX3 39 yX3_cellOf wsX3_cellOf) := goodIn_app (goodIn_of _ (by decide +kernel)) ggX3_placeOf_X3_cellOf
set_option maxRecDepth 20000 in
theorem ggX3_placeOf_X0_isTaken : GoodIn wsX3_placeOf wsX0_isTaken := goodIn_r _ [13, 14, 20, 21, 22, 23, 24, 25, 26, 27, 28, 29] (by decide +kernel) (by decide +kernel)
set_option maxRecDepth 20000 in
theorem gX3_placeOf_X0_isTaken : GoodIn wsX3_placeOf (wsV RX3 71 RX0 yX0_isTaken wsX0_isTaken) := goodIn_app (goodIn_of _ (by decide +kernel)) ggX3_placeOf_X0_isTaken
theorem dX3_placeOf_0 : decode cX3_placeOf 0 = .ok (.aload_n 0, 1) := by decide +kernel
theorem dX3_placeOf_1 : decode cX3_placeOf 1 = .ok (.getfield 25, 3) := by decide +kernel
theorem dX3_placeOf_4 : decode cX3_placeOf 4 = .ok (.iload_n 1, 1) := by decide +kernel
theorem dX3_placeOf_5 : decode cX3_placeOf 5 = .ok (.iload_n 2, 1) := by decide +kernel
theorem dX3_placeOf_6 : decode cX3_placeOf 6 = .ok (.invokestatic 39, 3) := by decide +kernel
theorem dX3_placeOf_9 : decode cX3_placeOf 9 = .ok (.iaload, 1) := by decide +kernel
theorem dX3_placeOf_10 : decode cX3_placeOf 10 = .ok (.istore 4, 2) := by decide +kernel
theorem dX3_placeOf_12 : decode cX3_placeOf 12 = .ok (.iconst 0, 1) := by decide +kernel
theorem dX3_placeOf_13 : decode cX3_placeOf 13 = .ok (.istore 5, 2) := by decide +kernel
theorem dX3_placeOf_15 : decode cX3_placeOf 15 = .ok (.iconst 0, 1) := by decide +kernel
theorem dX3_placeOf_16 : decode cX3_placeOf 16 = .ok (.istore 6, 2) := by decide +kernel
theorem dX3_placeOf_18 : decode cX3_placeOf 18 = .ok (.iload 6, 2) := by decide +kernel
theorem dX3_placeOf_20 : decode cX3_placeOf 20 = .ok (.aload_n 0, 1) := by decide +kernel
theorem dX3_placeOf_21 : decode cX3_placeOf 21 = .ok (.getfield 12, 3) := by decide +kernel
theorem dX3_placeOf_24 : decode cX3_placeOf 24 = .ok (.getfield 32, 3) := by decide +kernel
theorem dX3_placeOf_27 : decode cX3_placeOf 27 = .ok (.if_icmp .ge 83, 3) := by decide +kernel
theorem dX3_placeOf_30 : decode cX3_placeOf 30 = .ok (.iconst 0, 1) := by decide +kernel
theorem dX3_placeOf_31 : decode cX3_placeOf 31 = .ok (.istore 7, 2) := by decide +kernel
theorem dX3_placeOf_33 : decode cX3_placeOf 33 = .ok (.iload 7, 2) := by decide +kernel
theorem dX3_placeOf_35 : decode cX3_placeOf 35 = .ok (.aload_n 0, 1) := by decide +kernel
theorem dX3_placeOf_36 : decode cX3_placeOf 36 = .ok (.getfield 12, 3) := by decide +kernel
theorem dX3_placeOf_39 : decode cX3_placeOf 39 = .ok (.getfield 36, 3) := by decide +kernel
theorem dX3_placeOf_42 : decode cX3_placeOf 42 = .ok (.iload 6, 2) := by decide +kernel
theorem dX3_placeOf_44 : decode cX3_placeOf 44 = .ok (.iaload, 1) := by decide +kernel
theorem dX3_placeOf_45 : decode cX3_placeOf 45 = .ok (.if_icmp .ge 59, 3) := by decide +kernel
theorem dX3_placeOf_48 : decode cX3_placeOf 48 = .ok (.iload_n 3, 1) := by decide +kernel
theorem dX3_placeOf_49 : decode cX3_placeOf 49 = .ok (.ifCond .eq 17, 3) := by decide +kernel
theorem dX3_placeOf_52 : decode cX3_placeOf 52 = .ok (.aload_n 0, 1) := by decide +kernel
theorem dX3_placeOf_53 : decode cX3_placeOf 53 = .ok (.getfield 12, 3) := by decide +kernel
theorem dX3_placeOf_56 : decode cX3_placeOf 56 = .ok (.iload 6, 2) := by decide +kernel
theorem dX3_placeOf_58 : decode cX3_placeOf 58 = .ok (.iload 7, 2) := by decide +kernel
theorem dX3_placeOf_60 : decode cX3_placeOf 60 = .ok (.invokevirtual 71, 3) := by decide +kernel
theorem dX3_placeOf_63 : decode cX3_placeOf 63 = .ok (.ifCond .ne 7, 3) := by decide +kernel
theorem dX3_placeOf_66 : decode cX3_placeOf 66 = .ok (.iconst 1, 1) := by decide +kernel
theorem dX3_placeOf_67 : decode cX3_placeOf 67 = .ok (.goto 4, 3) := by decide +kernel
theorem dX3_placeOf_70 : decode cX3_placeOf 70 = .ok (.iconst 0, 1) := by decide +kernel
theorem dX3_placeOf_71 : decode cX3_placeOf 71 = .ok (.istore 8, 2) := by decide +kernel
theorem dX3_placeOf_73 : decode cX3_placeOf 73 = .ok (.iload 8, 2) := by decide +kernel
theorem dX3_placeOf_75 : decode cX3_placeOf 75 = .ok (.ifCond .eq 23, 3) := by decide +kernel
theorem dX3_placeOf_78 : decode cX3_placeOf 78 = .ok (.aload_n 0, 1) := by decide +kernel
theorem dX3_placeOf_79 : decode cX3_placeOf 79 = .ok (.getfield 25, 3) := by decide +kernel
theorem dX3_placeOf_82 : decode cX3_placeOf 82 = .ok (.iload 6, 2) := by decide +kernel
theorem dX3_placeOf_84 : decode cX3_placeOf 84 = .ok (.iload 7, 2) := by decide +kernel
theorem dX3_placeOf_86 : decode cX3_placeOf 86 = .ok (.invokestatic 39, 3) := by decide +kernel
theorem dX3_placeOf_89 : decode cX3_placeOf 89 = .ok (.iaload, 1) := by decide +kernel
theorem dX3_placeOf_90 : decode cX3_placeOf 90 = .ok (.iload 4, 2) := by decide +kernel
theorem dX3_placeOf_92 : decode cX3_placeOf 92 = .ok (.if_icmp .ge 6, 3) := by decide +kernel
theorem dX3_placeOf_95 : decode cX3_placeOf 95 = .ok (.iinc 5 1, 3) := by decide +kernel
theorem dX3_placeOf_98 : decode cX3_placeOf 98 = .ok (.iinc 7 1, 3) := by decide +kernel
theorem dX3_placeOf_101 : decode cX3_placeOf 101 = .ok (.goto (-68), 3) := by decide +kernel
theorem dX3_placeOf_104 : decode cX3_placeOf 104 = .ok (.iinc 6 1, 3) := by decide +kernel
theorem dX3_placeOf_107 : decode cX3_placeOf 107 = .ok (.goto (-89), 3) := by decide +kernel
theorem dX3_placeOf_110 : decode cX3_placeOf 110 = .ok (.iload 5, 2) := by decide +kernel
theorem dX3_placeOf_112 : decode cX3_placeOf 112 = .ok (.ireturn, 1) := by decide +kernel
set_option maxRecDepth 20000 in
theorem ggX3_placeForParty_X3_allInWayOfParty : GoodIn wsX3_placeForParty wsX3_allInWayOfParty := goodIn_r _ [8, 9, 10, 11, 7, 12, 13, 14, 15, 16, 17, 27, 28, 29, 30, 31] (by decide +kernel) (by decide +kernel)
set_option maxRecDepth 20000 in
theorem gX3_placeForParty_X3_allInWayOfParty : GoodIn wsX3_placeForParty (wsV RX3 78 RX3 yX3_allInWayOfParty wsX3_allInWayOfParty) := goodIn_app (goodIn_of _ (by decide +kernel)) ggX3_placeForParty_X3_allInWayOfParty
set_option maxRecDepth 20000 in
theorem ggX3_placeForParty_X0_areFree : GoodIn wsX3_placeForParty wsX0_areFree := goodIn_r _ [22, 23, 24, 25, 21, 26, 32, 33, 34, 35, 36, 37, 38, 39, 40, 41] (by decide +kernel) (by decide +kernel)
set_option maxRecDepth 20000 in
theorem gX3_placeForParty_X0_areFree : GoodIn wsX3_placeForParty (wsV RX3 82 RX0 yX0_areFree wsX0_areFree) := goodIn_app (goodIn_of _ (by decide +kernel)) ggX3_placeForParty_X0_areFree
theorem dX3_placeForParty_0 : decode cX3_placeForParty 0 = .ok (.iconst (-1), 1) := by decide +kernel
theorem dX3_placeForParty_1 : decode cX3_placeForParty 1 = .ok (.istore_n 2, 1) := by decide +kernel
theorem dX3_placeForParty_2 : decode cX3_placeForParty 2 = .ok (.iconst 0, 1) := by decide +kernel
theorem dX3_placeForParty_3 : decode cX3_placeForParty 3 = .ok (.istore_n 3, 1) := by decide +kernel
theorem dX3_placeForParty_4 : decode cX3_placeForParty 4 = .ok (.iconst 0, 1) := by decide +kernel
theorem dX3_placeForParty_5 : decode cX3_placeForParty 5 = .ok (.istore 4, 2) := by decide +kernel
theorem dX3_placeForParty_7 : decode cX3_placeForParty 7 = .ok (.iload 4, 2) := by decide +kernel
theorem dX3_placeForParty_9 : decode cX3_placeForParty 9 = .ok (.aload_n 0, 1) := by decide +kernel
theorem dX3_placeForParty_10 : decode cX3_placeForParty 10 = .ok (.getfield 12, 3) := by decide +kernel
theorem dX3_placeForParty_13 : decode cX3_placeForParty 13 = .ok (.getfield 32, 3) := by decide +kernel
theorem dX3_placeForParty_16 : decode cX3_placeForParty 16 = .ok (.if_icmp .ge 84, 3) := by decide +kernel
theorem dX3_placeForParty_19 : decode cX3_placeForParty 19 = .ok (.iconst 0, 1) := by decide +kernel
theorem dX3_placeForParty_20 : decode cX3_placeForParty 20 = .ok (.istore 5, 2) := by decide +kernel
theorem dX3_placeForParty_22 : decode cX3_placeForParty 22 = .ok (.iload 5, 2) := by decide +kernel
theorem dX3_placeForParty_24 : decode cX3_placeForParty 24 = .ok (.iload_n 1, 1) := by decide +kernel
theorem dX3_placeForParty_25 : decode cX3_placeForParty 25 = .ok (.iadd, 1) := by decide +kernel
theorem dX3_placeForParty_26 : decode cX3_placeForParty 26 = .ok (.aload_n 0, 1) := by decide +kernel
theorem dX3_placeForParty_27 : decode cX3_placeForParty 27 = .ok (.getfield 12, 3) := by decide +kernel
theorem dX3_placeForParty_30 : decode cX3_placeForParty 30 = .ok (.getfield 36, 3) := by decide +kernel
theorem dX3_placeForParty_33 : decode cX3_placeForParty 33 = .ok (.iload 4, 2) := by decide +kernel
theorem dX3_placeForParty_35 : decode cX3_placeForParty 35 = .ok (.iaload, 1) := by decide +kernel
theorem dX3_placeForParty_36 : decode cX3_placeForParty 36 = .ok (.if_icmp .gt 58, 3) := by decide +kernel
theorem dX3_placeForParty_39 : decode cX3_placeForParty 39 = .ok (.aload_n 0, 1) := by decide +kernel
theorem dX3_placeForParty_40 : decode cX3_placeForParty 40 = .ok (.iload 4, 2) := by decide +kernel
theorem dX3_placeForParty_42 : decode cX3_placeForParty 42 = .ok (.iload 5, 2) := by decide +kernel
theorem dX3_placeForParty_44 : decode cX3_placeForParty 44 = .ok (.iload_n 1, 1) := by decide +kernel
theorem dX3_placeForParty_45 : decode cX3_placeForParty 45 = .ok (.invokevirtual 78, 3) := by decide +kernel
theorem dX3_placeForParty_48 : decode cX3_placeForParty 48 = .ok (.istore 6, 2) := by decide +kernel
theorem dX3_placeForParty_50 : decode cX3_placeForParty 50 = .ok (.aload_n 0, 1) := by decide +kernel
theorem dX3_placeForParty_51 : decode cX3_placeForParty 51 = .ok (.getfield 12, 3) := by decide +kernel
theorem dX3_placeForParty_54 : decode cX3_placeForParty 54 = .ok (.iload 4, 2) := by decide +kernel
theorem dX3_placeForParty_56 : decode cX3_placeForParty 56 = .ok (.iload 5, 2) := by decide +kernel
theorem dX3_placeForParty_58 : decode cX3_placeForParty 58 = .ok (.iload_n 1, 1) := by decide +kernel
theorem dX3_placeForParty_59 : decode cX3_placeForParty 59 = .ok (.invokevirtual 82, 3) := by decide +kernel
theorem dX3_placeForParty_62 : decode cX3_placeForParty 62 = .ok (.ifCond .eq 26, 3) := by decide +kernel
theorem dX3_placeForParty_65 : decode cX3_placeForParty 65 = .ok (.iload_n 2, 1) := by decide +kernel
theorem dX3_placeForParty_66 : decode cX3_placeForParty 66 = .ok (.iconst (-1), 1) := by decide +kernel
theorem dX3_placeForParty_67 : decode cX3_placeForParty 67 = .ok (.if_icmp .eq 9, 3) := by decide +kernel
theorem dX3_placeForParty_70 : decode cX3_placeForParty 70 = .ok (.iload 6, 2) := by decide +kernel
theorem dX3_placeForParty_72 : decode cX3_placeForParty 72 = .ok (.iload_n 3, 1) := by decide +kernel
theorem dX3_placeForParty_73 : decode cX3_placeForParty 73 = .ok (.if_icmp .ge 15, 3) := by decide +kernel
theorem dX3_placeForParty_76 : decode cX3_placeForParty 76 = .ok (.bipush 100, 2) := by decide +kernel
theorem dX3_placeForParty_78 : decode cX3_placeForParty 78 = .ok (.iload 4, 2) := by decide +kernel
theorem dX3_placeForParty_80 : decode cX3_placeForParty 80 = .ok (.imul, 1) := by decide +kernel
theorem dX3_placeForParty_81 : decode cX3_placeForParty 81 = .ok (.iload 5, 2) := by decide +kernel
theorem dX3_placeForParty_83 : decode cX3_placeForParty 83 = .ok (.iadd, 1) := by decide +kernel
theorem dX3_placeForParty_84 : decode cX3_placeForParty 84 = .ok (.istore_n 2, 1) := by decide +kernel
theorem dX3_placeForParty_85 : decode cX3_placeForParty 85 = .ok (.iload 6, 2) := by decide +kernel
theorem dX3_placeForParty_87 : decode cX3_placeForParty 87 = .ok (.istore_n 3, 1) := by decide +kernel
theorem dX3_placeForParty_88 : decode cX3_placeForParty 88 = .ok (.iinc 5 1, 3) := by decide +kernel
theorem dX3_placeForParty_91 : decode cX3_placeForParty 91 = .ok (.goto (-69), 3) := by decide +kernel
theorem dX3_placeForParty_94 : decode cX3_placeForParty 94 = .ok (.iinc 4 1, 3) := by decide +kernel
theorem dX3_placeForParty_97 : decode cX3_placeForParty 97 = .ok (.goto (-90), 3) := by decide +kernel
theorem dX3_placeForParty_100 : decode cX3_placeForParty 100 = .ok (.iload_n 2, 1) := by decide +kernel
theorem dX3_placeForParty_101 : decode cX3_placeForParty 101 = .ok (.ireturn, 1) := by decide +kernel
set_option maxRecDepth 20000 in
theorem ggX3_allInWayOfParty_X3_allInWay : GoodIn wsX3_allInWayOfParty wsX3_allInWay := goodIn_r _ [5, 6, 7, 8, 9, 4, 10, 11, 12, 13, 14, 15] (by decide +kernel) (by decide +kernel)
set_option maxRecDepth 20000 in
theorem gX3_allInWayOfParty_X3_allInWay : GoodIn wsX3_allInWayOfParty (wsV RX3 52 RX3 yX3_allInWay wsX3_allInWay) := goodIn_app (goodIn_of _ (by decide +kernel)) ggX3_allInWayOfParty_X3_allInWay
theorem dX3_allInWayOfParty_0 : decode cX3_allInWayOfParty 0 = .ok (.iconst 0, 1) := by decide +kernel
theorem dX3_allInWayOfParty_1 : decode cX3_allInWayOfParty 1 = .ok (.istore 4, 2) := by decide +kernel
theorem dX3_allInWayOfParty_3 : decode cX3_allInWayOfParty 3 = .ok (.iload_n 2, 1) := by decide +kernel
theorem dX3_allInWayOfParty_4 : decode cX3_allInWayOfParty 4 = .ok (.istore 5, 2) := by decide +kernel
theorem dX3_allInWayOfParty_6 : decode cX3_allInWayOfParty 6 = .ok (.iload 5, 2) := by decide +kernel
theorem dX3_allInWayOfParty_8 : decode cX3_allInWayOfParty 8 = .ok (.iload_n 2, 1) := by decide +kernel
theorem dX3_allInWayOfParty_9 : decode cX3_allInWayOfParty 9 = .ok (.iload_n 3, 1) := by decide +kernel
theorem dX3_allInWayOfParty_10 : decode cX3_allInWayOfParty 10 = .ok (.iadd, 1) := by decide +kernel
theorem dX3_allInWayOfParty_11 : decode cX3_allInWayOfParty 11 = .ok (.if_icmp .ge 21, 3) := by decide +kernel
theorem dX3_allInWayOfParty_14 : decode cX3_allInWayOfParty 14 = .ok (.iload 4, 2) := by decide +kernel
theorem dX3_allInWayOfParty_16 : decode cX3_allInWayOfParty 16 = .ok (.aload_n 0, 1) := by decide +kernel
theorem dX3_allInWayOfParty_17 : decode cX3_allInWayOfParty 17 = .ok (.iload_n 1, 1) := by decide +kernel
theorem dX3_allInWayOfParty_18 : decode cX3_allInWayOfParty 18 = .ok (.iload 5, 2) := by decide +kernel
theorem dX3_allInWayOfParty_20 : decode cX3_allInWayOfParty 20 = .ok (.invokevirtual 52, 3) := by decide +kernel
theorem dX3_allInWayOfParty_23 : decode cX3_allInWayOfParty 23 = .ok (.iadd, 1) := by decide +kernel
theorem dX3_allInWayOfParty_24 : decode cX3_allInWayOfParty 24 = .ok (.istore 4, 2) := by decide +kernel
theorem dX3_allInWayOfParty_26 : decode cX3_allInWayOfParty 26 = .ok (.iinc 5 1, 3) := by decide +kernel
theorem dX3_allInWayOfParty_29 : decode cX3_allInWayOfParty 29 = .ok (.goto (-23), 3) := by decide +kernel
theorem dX3_allInWayOfParty_32 : decode cX3_allInWayOfParty 32 = .ok (.iload 4, 2) := by decide +kernel
theorem dX3_allInWayOfParty_34 : decode cX3_allInWayOfParty 34 = .ok (.ireturn, 1) := by decide +kernel
end
section
theorem dJ6_bitCount_0f7a4_0 : decode cJ6_bitCount_0f7a4 0 = .ok (.iload_n 0, 1) := by decide +kernel
theorem dJ6_bitCount_0f7a4_1 : decode cJ6_bitCount_0f7a4 1 = .ok (.iload_n 0, 1) := by decide +kernel
theorem dJ6_bitCount_0f7a4_2 : decode cJ6_bitCount_0f7a4 2 = .ok (.iconst 1, 1) := by decide +kernel
theorem dJ6_bitCount_0f7a4_3 : decode cJ6_bitCount_0f7a4 3 = .ok (.iushr, 1) := by decide +kernel
theorem dJ6_bitCount_0f7a4_4 : decode cJ6_bitCount_0f7a4 4 = .ok (.ldc_w 265, 3) := by decide +kernel
theorem dJ6_bitCount_0f7a4_7 : decode cJ6_bitCount_0f7a4 7 = .ok (.iand, 1) := by decide +kernel
theorem dJ6_bitCount_0f7a4_8 : decode cJ6_bitCount_0f7a4 8 = .ok (.isub, 1) := by decide +kernel
theorem dJ6_bitCount_0f7a4_9 : decode cJ6_bitCount_0f7a4 9 = .ok (.istore_n 0, 1) := by decide +kernel
theorem dJ6_bitCount_0f7a4_10 : decode cJ6_bitCount_0f7a4 10 = .ok (.iload_n 0, 1) := by decide +kernel
theorem dJ6_bitCount_0f7a4_11 : decode cJ6_bitCount_0f7a4 11 = .ok (.ldc_w 266, 3) := by decide +kernel
theorem dJ6_bitCount_0f7a4_14 : decode cJ6_bitCount_0f7a4 14 = .ok (.iand, 1) := by decide +kernel
theorem dJ6_bitCount_0f7a4_15 : decode cJ6_bitCount_0f7a4 15 = .ok (.iload_n 0, 1) := by decide +kernel
theorem dJ6_bitCount_0f7a4_16 : decode cJ6_bitCount_0f7a4 16 = .ok (.iconst 2, 1) := by decide +kernel
theorem dJ6_bitCount_0f7a4_17 : decode cJ6_bitCount_0f7a4 17 = .ok (.iushr, 1) := by decide +kernel
theorem dJ6_bitCount_0f7a4_18 : decode cJ6_bitCount_0f7a4 18 = .ok (.ldc_w 266, 3) := by decide +kernel
theorem dJ6_bitCount_0f7a4_21 : decode cJ6_bitCount_0f7a4 21 = .ok (.iand, 1) := by decide +kernel
theorem dJ6_bitCount_0f7a4_22 : decode cJ6_bitCount_0f7a4 22 = .ok (.iadd, 1) := by decide +kernel
theorem dJ6_bitCount_0f7a4_23 : decode cJ6_bitCount_0f7a4 23 = .ok (.istore_n 0, 1) := by decide +kernel
theorem dJ6_bitCount_0f7a4_24 : decode cJ6_bitCount_0f7a4 24 = .ok (.iload_n 0, 1) := by decide +kernel
theorem dJ6_bitCount_0f7a4_25 : decode cJ6_bitCount_0f7a4 25 = .ok (.iload_n 0, 1) := by decide +kernel
theorem dJ6_bitCount_0f7a4_26 : decode cJ6_bitCount_0f7a4 26 = .ok (.iconst 4, 1) := by decide +kernel
theorem dJ6_bitCount_0f7a4_27 : decode cJ6_bitCount_0f7a4 27 = .ok (.iushr, 1) := by decide +kernel
theorem dJ6_bitCount_0f7a4_28 : decode cJ6_bitCount_0f7a4 28 = .ok (.iadd, 1) := by decide +kernel
theorem dJ6_bitCount_0f7a4_29 : decode cJ6_bitCount_0f7a4 29 = .ok (.ldc_w 267, 3) := by decide +kernel
theorem dJ6_bitCount_0f7a4_32 : decode cJ6_bitCount_0f7a4 32 = .ok (.iand, 1) := by decide +kernel
theorem dJ6_bitCount_0f7a4_33 : decode cJ6_bitCount_0f7a4 33 = .ok (.istore_n 0, 1) := by decide +kernel
theorem dJ6_bitCount_0f7a4_34 : decode cJ6_bitCount_0f7a4 34 = .ok (.iload_n 0, 1) := by decide +kernel
theorem dJ6_bitCount_0f7a4_35 : decode cJ6_bitCount_0f7a4 35 = .ok (.iload_n 0, 1) := by decide +kernel
theorem dJ6_bitCount_0f7a4_36 : decode cJ6_bitCount_0f7a4 36 = .ok (.bipush 8, 2) := by decide +kernel
theorem dJ6_bitCount_0f7a4_38 : decode cJ6_bitCount_0f7a4 38 = .ok (.iushr, 1) := by decide +kernel
theorem dJ6_bitCount_0f7a4_39 : decode cJ6_bitCount_0f7a4 39 = .ok (.iadd, 1) := by decide +kernel
theorem dJ6_bitCount_0f7a4_40 : decode cJ6_bitCount_0f7a4 40 = .ok (.istore_n 0, 1) := by decide +kernel
theorem dJ6_bitCount_0f7a4_41 : decode cJ6_bitCount_0f7a4 41 = .ok (.iload_n 0, 1) := by decide +kernel
theorem dJ6_bitCount_0f7a4_42 : decode cJ6_bitCount_0f7a4 42 = .ok (.iload_n 0, 1) := by decide +kernel
theorem dJ6_bitCount_0f7a4_43 : decode cJ6_bitCount_0f7a4 43 = .ok (.bipush 16, 2) := by decide +kernel
theorem dJ6_bitCount_0f7a4_45 : decode cJ6_bitCount_0f7a4 45 = .ok (.iushr, 1) := by decide +kernel
theorem dJ6_bitCount_0f7a4_46 : decode cJ6_bitCount_0f7a4 46 = .ok (.iadd, 1) := by decide +kernel
theorem dJ6_bitCount_0f7a4_47 : decode cJ6_bitCount_0f7a4 47 = .ok (.istore_n 0, 1) := by decide +kernel
theorem dJ6_bitCount_0f7a4_48 : decode cJ6_bitCount_0f7a4 48 = .ok (.iload_n 0, 1) := by decide +kernel
theorem dJ6_bitCount_0f7a4_49 : decode cJ6_bitCount_0f7a4 49 = .ok (.bipush 63, 2) := by decide +kernel
theorem dJ6_bitCount_0f7a4_51 : decode cJ6_bitCount_0f7a4 51 = .ok (.iand, 1) := by decide +kernel
theorem dJ6_bitCount_0f7a4_52 : decode cJ6_bitCount_0f7a4 52 = .ok (.ireturn, 1) := by decide +kernel
theorem dJ9_abs_0f7a4_0 : decode cJ9_abs_0f7a4 0 = .ok (.iload_n 0, 1) := by decide +kernel
theorem dJ9_abs_0f7a4_1 : decode cJ9_abs_0f7a4 1 = .ok (.ifCond .ge 8, 3) := by decide +kernel
theorem dJ9_abs_0f7a4_4 : decode cJ9_abs_0f7a4 4 = .ok (.iload_n 0, 1) := by decide +kernel
theorem dJ9_abs_0f7a4_5 : decode cJ9_abs_0f7a4 5 = .ok (.ineg, 1) := by decide +kernel
theorem dJ9_abs_0f7a4_6 : decode cJ9_abs_0f7a4 6 = .ok (.goto 4, 3) := by decide +kernel
theorem dJ9_abs_0f7a4_9 : decode cJ9_abs_0f7a4 9 = .ok (.iload_n 0, 1) := by decide +kernel
theorem dJ9_abs_0f7a4_10 : decode cJ9_abs_0f7a4 10 = .ok (.ireturn, 1) := by decide +kernel
theorem dJ9_max_7cf53_0 : decode cJ9_max_7cf53 0 = .ok (.iload_n 0, 1) := by decide +kernel
theorem dJ9_max_7cf53_1 : decode cJ9_max_7cf53 1 = .ok (.iload_n 1, 1) := by decide +kernel
theorem dJ9_max_7cf53_2 : decode cJ9_max_7cf53 2 = .ok (.if_icmp .lt 7, 3) := by decide +kernel
theorem dJ9_max_7cf53_5 : decode cJ9_max_7cf53 5 = .ok (.iload_n 0, 1) := by decide +kernel
theorem dJ9_max_7cf53_6 : decode cJ9_max_7cf53 6 = .ok (.goto 4, 3) := by decide +kernel
theorem dJ9_max_7cf53_9 : decode cJ9_max_7cf53 9 = .ok (.iload_n 1, 1) := by decide +kernel
theorem dJ9_max_7cf53_10 : decode cJ9_max_7cf53 10 = .ok (.ireturn, 1) := by decide +kernel
end
section
/-! OWN ROWS: numbers as nI, answers of yes and no as bI; contracts of methods that change nothing (kp, kr), of methods that write (kw, kq) -/
abbrev vwCl : List vw_C := [(RX0, TX0, 10), (RX1, TX1, 2), (RX2, TX2, 5), (RX3, TX3, 5), (RX4, TX4, 5)]
def bI (b : Bool) : Int32 := if b = true then nI 1 else nI 0
theorem bI_t : bI true = nI 1 := rfl
theorem bI_f : bI false = nI 0 := rfl
theorem kx_n31 {a : Nat} (h : a ≤ 1000000000) : a < 2 ^ 31 := by omega
theorem kx_n1 : nI 0 = 0 := rfl
section KX
variable {p : Program} {l : Launch} {e : Env} {R : Room} {s : State} {m : MethodId} {args : Array Value} {below : List Frame} {meth : Method} {c : Code} {H : Heap} {locs : List Loc} {cells slots : Nat} {Q : State → Prop}
variable {cc : ByteArray} {pc : Nat} {ls : Array Slot} {rest : List Value} {D : va_G} {cl : List vw_C} {ws : va_W} {tys : List (ClassId × FieldType)} {A : Nat → Prop} {H0 : Heap} {q : Addr}
theorem kx_top {x y : Int32} (E : x = y) (k : W p l e R s m args below meth c H locs cells slots Q (F0 m pc ls (.int y :: rest))) : W p l e R s m args below meth c H locs cells slots Q (F0 m pc ls (.int x :: rest)) := by rw [E]; exact k
theorem kx_topl {x y : Int64} (E : x = y) (k : W p l e R s m args below meth c H locs cells slots Q (F0 m pc ls (.long y :: rest))) : W p l e R s m args below meth c H locs cells slots Q (F0 m pc ls (.long x :: rest)) := by rw [E]; exact k
theorem kx_iadd (hexec : p.tables.exec = Jvm.exec) (hb : c.code = cc) {x y : Nat} (hdg : decode cc pc = .ok (.iadd, 1)) (k : W p l e R s m args below meth c H locs cells slots Q (F0 m (pc + 1) ls (.int (nI (x + y)) :: rest))) : W p l e R s m args below meth c H locs cells slots Q (F0 m pc ls (.int (nI y) :: .int (nI x) :: rest)) := lv_iadd hexec hb hdg (by rw [nI_add]; exact k)
theorem kx_imul (hexec : p.tables.exec = Jvm.exec) (hb : c.code = cc) {x y : Nat} (hdg : decode cc pc = .ok (.imul, 1)) (k : W p l e R s m args below meth c H locs cells slots Q (F0 m (pc + 1) ls (.int (nI (x * y)) :: rest))) : W p l e R s m args below meth c H locs cells slots Q (F0 m pc ls (.int (nI y) :: .int (nI x) :: rest)) := lv_imul hexec hb hdg (by rw [pk_mul]; exact k)
theorem kx_isub (hexec : p.tables.exec = Jvm.exec) (hb : c.code = cc) {x y : Nat} (h : y ≤ x) (hdg : decode cc pc = .ok (.isub, 1)) (k : W p l e R s m args below meth c H locs cells slots Q (F0 m (pc + 1) ls (.int (nI (x - y)) :: rest))) : W p l e R s m args below meth c H locs cells slots Q (F0 m pc ls (.int (nI y) :: .int (nI x) :: rest)) := lv_isub hexec hb hdg (by rw [pk_sub h]; exact k)
theorem kx_inc {x : Nat} (k : Nat) : nI x + Int32.ofInt (k : Int) = nI (x + k) := by
  rw [← nI_add]; rfl
theorem kx_dec {x : Nat} (h : 1 ≤ x) : nI x + Int32.ofInt (-1) = nI (x - 1) := by
  obtain ⟨y, rfl⟩ : ∃ y, x = y + 1 := ⟨x - 1, by omega⟩
  exact pk_m1 y
theorem kx_icmp_lt (hexec : p.tables.exec = Jvm.exec) (hb : c.code = cc) {x y : Nat} (hx : x < 2 ^ 31) (hy : y < 2 ^ 31) {off : Int} {tgt : Nat} (hdg : decode cc pc = .ok (.if_icmp .lt off, 3)) (ht : (pc : Int) + off = (tgt : Int))
    (kt : x < y → W p l e R s m args below meth c H locs cells slots Q (F0 m tgt ls rest)) (kf : y ≤ x → W p l e R s m args below meth c H locs cells slots Q (F0 m (pc + 3) ls rest)) : W p l e R s m args below meth c H locs cells slots Q (F0 m pc ls (.int (nI y) :: .int (nI x) :: rest)) :=
  lv_icmp_lt hexec hb hdg ht (fun h => kt ((nI_ltI hx hy).mp h)) (fun h => kf (Nat.not_lt.mp fun q => h ((nI_ltI hx hy).mpr q)))
theorem kx_icmp_ge (hexec : p.tables.exec = Jvm.exec) (hb : c.code = cc) {x y : Nat} (hx : x < 2 ^ 31) (hy : y < 2 ^ 31) {off : Int} {tgt : Nat} (hdg : decode cc pc = .ok (.if_icmp .ge off, 3)) (ht : (pc : Int) + off = (tgt : Int))
    (kt : y ≤ x → W p l e R s m args below meth c H locs cells slots Q (F0 m tgt ls rest)) (kf : x < y → W p l e R s m args below meth c H locs cells slots Q (F0 m (pc + 3) ls rest)) : W p l e R s m args below meth c H locs cells slots Q (F0 m pc ls (.int (nI y) :: .int (nI x) :: rest)) :=
  lv_icmp_ge hexec hb hdg ht (fun h => kt ((nI_leI hy hx).mp h)) (fun h => kf (Nat.not_le.mp fun q => h ((nI_leI hy hx).mpr q)))
theorem kx_icmp_gt (hexec : p.tables.exec = Jvm.exec) (hb : c.code = cc) {x y : Nat} (hx : x < 2 ^ 31) (hy : y < 2 ^ 31) {off : Int} {tgt : Nat} (hdg : decode cc pc = .ok (.if_icmp .gt off, 3)) (ht : (pc : Int) + off = (tgt : Int))
    (kt : y < x → W p l e R s m args below meth c H locs cells slots Q (F0 m tgt ls rest)) (kf : x ≤ y → W p l e R s m args below meth c H locs cells slots Q (F0 m (pc + 3) ls rest)) : W p l e R s m args below meth c H locs cells slots Q (F0 m pc ls (.int (nI y) :: .int (nI x) :: rest)) :=
  lv_icmp_gt hexec hb hdg ht (fun h => kt ((nI_ltI hy hx).mp h)) (fun h => kf (Nat.not_lt.mp fun q => h ((nI_ltI hy hx).mpr q)))
theorem kx_icmp_le (hexec : p.tables.exec = Jvm.exec) (hb : c.code = cc) {x y : Nat} (hx : x < 2 ^ 31) (hy : y < 2 ^ 31) {off : Int} {tgt : Nat} (hdg : decode cc pc = .ok (.if_icmp .le off, 3)) (ht : (pc : Int) + off = (tgt : Int))
    (kt : x ≤ y → W p l e R s m args below meth c H locs cells slots Q (F0 m tgt ls rest)) (kf : y < x → W p l e R s m args below meth c H locs cells slots Q (F0 m (pc + 3) ls rest)) : W p l e R s m args below meth c H locs cells slots Q (F0 m pc ls (.int (nI y) :: .int (nI x) :: rest)) :=
  lv_icmp_le hexec hb hdg ht (fun h => kt ((nI_leI hx hy).mp h)) (fun h => kf (Nat.not_le.mp fun q => h ((nI_leI hx hy).mpr q)))
theorem kx_icmp_eq (hexec : p.tables.exec = Jvm.exec) (hb : c.code = cc) {x y : Nat} (hx : x < 2 ^ 31) (hy : y < 2 ^ 31) {off : Int} {tgt : Nat} (hdg : decode cc pc = .ok (.if_icmp .eq off, 3)) (ht : (pc : Int) + off = (tgt : Int))
    (kt : x = y → W p l e R s m args below meth c H locs cells slots Q (F0 m tgt ls rest)) (kf : x ≠ y → W p l e R s m args below meth c H locs cells slots Q (F0 m (pc + 3) ls rest)) : W p l e R s m args below meth c H locs cells slots Q (F0 m pc ls (.int (nI y) :: .int (nI x) :: rest)) :=
  lv_icmp_eq hexec hb hdg ht (fun h => kt ((nI_eq hx hy).mp h)) (fun h => kf fun q => h ((nI_eq hx hy).mpr q))
theorem kx_icmp_ne (hexec : p.tables.exec = Jvm.exec) (hb : c.code = cc) {x y : Nat} (hx : x < 2 ^ 31) (hy : y < 2 ^ 31) {off : Int} {tgt : Nat} (hdg : decode cc pc = .ok (.if_icmp .ne off, 3)) (ht : (pc : Int) + off = (tgt : Int))
    (kt : x ≠ y → W p l e R s m args below meth c H locs cells slots Q (F0 m tgt ls rest)) (kf : x = y → W p l e R s m args below meth c H locs cells slots Q (F0 m (pc + 3) ls rest)) : W p l e R s m args below meth c H locs cells slots Q (F0 m pc ls (.int (nI y) :: .int (nI x) :: rest)) :=
  lv_icmp_ne hexec hb hdg ht (fun h => kt fun q => h ((nI_eq hx hy).mpr q)) (fun h => kf ((nI_eq hx hy).mp (by first | exact h | exact Classical.not_not.mp h)))
theorem kx_if_le (hexec : p.tables.exec = Jvm.exec) (hb : c.code = cc) {x : Nat} (hx : x < 2 ^ 31) {off : Int} {tgt : Nat} (hdg : decode cc pc = .ok (.ifCond .le off, 3)) (ht : (pc : Int) + off = (tgt : Int))
    (kt : x = 0 → W p l e R s m args below meth c H locs cells slots Q (F0 m tgt ls rest)) (kf : 0 < x → W p l e R s m args below meth c H locs cells slots Q (F0 m (pc + 3) ls rest)) : W p l e R s m args below meth c H locs cells slots Q (F0 m pc ls (.int (nI x) :: rest)) :=
  lv_if_le hexec hb hdg ht (fun h => kt (Nat.eq_zero_of_not_pos fun q => nI_nle q hx h)) (fun h => kf (Nat.pos_of_ne_zero fun q => h (by subst q; exact Int32.le_refl _)))
theorem kx_if_gt (hexec : p.tables.exec = Jvm.exec) (hb : c.code = cc) {x : Nat} (hx : x < 2 ^ 31) {off : Int} {tgt : Nat} (hdg : decode cc pc = .ok (.ifCond .gt off, 3)) (ht : (pc : Int) + off = (tgt : Int))
    (kt : 0 < x → W p l e R s m args below meth c H locs cells slots Q (F0 m tgt ls rest)) (kf : x = 0 → W p l e R s m args below meth c H locs cells slots Q (F0 m (pc + 3) ls rest)) : W p l e R s m args below meth c H locs cells slots Q (F0 m pc ls (.int (nI x) :: rest)) :=
  lv_if_gt hexec hb hdg ht (fun h => kt ((nI_ltI (a := 0) (by decide) hx).mp h)) (fun h => kf (Nat.eq_zero_of_not_pos fun q => h ((nI_ltI (a := 0) (by decide) hx).mpr q)))
theorem kx_if_lt (hexec : p.tables.exec = Jvm.exec) (hb : c.code = cc) {x : Nat} (hx : x < 2 ^ 31) {off : Int} {tgt : Nat} (hdg : decode cc pc = .ok (.ifCond .lt off, 3)) (ht : (pc : Int) + off = (tgt : Int))
    (kf : W p l e R s m args below meth c H locs cells slots Q (F0 m (pc + 3) ls rest)) : W p l e R s m args below meth c H locs cells slots Q (F0 m pc ls (.int (nI x) :: rest)) :=
  lv_if_lt hexec hb hdg ht (fun h => absurd h (nI_pos hx)) (fun _ => kf)
theorem kx_if_ge (hexec : p.tables.exec = Jvm.exec) (hb : c.code = cc) {x : Nat} (hx : x < 2 ^ 31) {off : Int} {tgt : Nat} (hdg : decode cc pc = .ok (.ifCond .ge off, 3)) (ht : (pc : Int) + off = (tgt : Int))
    (kt : W p l e R s m args below meth c H locs cells slots Q (F0 m tgt ls rest)) : W p l e R s m args below meth c H locs cells slots Q (F0 m pc ls (.int (nI x) :: rest)) :=
  lv_if_ge hexec hb hdg ht (fun _ => kt) (fun h => absurd (nI_pos' hx) h)
theorem kx_if_eq (hexec : p.tables.exec = Jvm.exec) (hb : c.code = cc) {x : Nat} (hx : x < 2 ^ 31) {off : Int} {tgt : Nat} (hdg : decode cc pc = .ok (.ifCond .eq off, 3)) (ht : (pc : Int) + off = (tgt : Int))
    (kt : x = 0 → W p l e R s m args below meth c H locs cells slots Q (F0 m tgt ls rest)) (kf : 0 < x → W p l e R s m args below meth c H locs cells slots Q (F0 m (pc + 3) ls rest)) : W p l e R s m args below meth c H locs cells slots Q (F0 m pc ls (.int (nI x) :: rest)) :=
  lv_if_eq hexec hb hdg ht (fun h => kt (Nat.eq_zero_of_not_pos fun q => nI_ne0 q hx h)) (fun h => kf (Nat.pos_of_ne_zero fun q => h (by subst q; rfl)))
theorem kx_if_ne (hexec : p.tables.exec = Jvm.exec) (hb : c.code = cc) {x : Nat} (hx : x < 2 ^ 31) {off : Int} {tgt : Nat} (hdg : decode cc pc = .ok (.ifCond .ne off, 3)) (ht : (pc : Int) + off = (tgt : Int))
    (kt : 0 < x → W p l e R s m args below meth c H locs cells slots Q (F0 m tgt ls rest)) (kf : x = 0 → W p l e R s m args below meth c H locs cells slots Q (F0 m (pc + 3) ls rest)) : W p l e R s m args below meth c H locs cells slots Q (F0 m pc ls (.int (nI x) :: rest)) :=
  lv_if_ne hexec hb hdg ht (fun h => kt (Nat.pos_of_ne_zero fun q => h (by subst q; rfl))) (fun h => kf (Nat.eq_zero_of_not_pos fun q => nI_ne0 q hx (by first | exact h | exact Classical.not_not.mp h)))
theorem bI_0 {b : Bool} : bI b = 0 ↔ b = false := by cases b <;> decide
theorem kx_if_eqb (hexec : p.tables.exec = Jvm.exec) (hb : c.code = cc) {x : Bool} {off : Int} {tgt : Nat} (hdg : decode cc pc = .ok (.ifCond .eq off, 3)) (ht : (pc : Int) + off = (tgt : Int))
    (kt : x = false → W p l e R s m args below meth c H locs cells slots Q (F0 m tgt ls rest)) (kf : x = true → W p l e R s m args below meth c H locs cells slots Q (F0 m (pc + 3) ls rest)) : W p l e R s m args below meth c H locs cells slots Q (F0 m pc ls (.int (bI x) :: rest)) :=
  lv_if_eq hexec hb hdg ht (fun h => kt (bI_0.mp h)) (fun h => kf (by cases x; exact absurd rfl h; rfl))
theorem kx_if_neb (hexec : p.tables.exec = Jvm.exec) (hb : c.code = cc) {x : Bool} {off : Int} {tgt : Nat} (hdg : decode cc pc = .ok (.ifCond .ne off, 3)) (ht : (pc : Int) + off = (tgt : Int))
    (kt : x = true → W p l e R s m args below meth c H locs cells slots Q (F0 m tgt ls rest)) (kf : x = false → W p l e R s m args below meth c H locs cells slots Q (F0 m (pc + 3) ls rest)) : W p l e R s m args below meth c H locs cells slots Q (F0 m pc ls (.int (bI x) :: rest)) :=
  lv_if_ne hexec hb hdg ht (fun h => kt (by cases x; exact absurd rfl h; rfl)) (fun h => kf (bI_0.mp (by first | exact h | exact Classical.not_not.mp h)))
theorem kx_iald (hexec : p.tables.exec = Jvm.exec) (hb : c.code = cc) (hK : va_K D cl tys s) (hP : va_P D cl ws H) (q0 t0 : Nat) {cA : ClassId} {n : Nat} {f : Nat → Int32} (ha : ws[q0]? = some (q, .inl (cA, n, .inl f))) (ht : tys[t0]? = some (cA, .int)) {x : Nat} (h : x < n) (hn : n < 2 ^ 31) (hdg : decode cc pc = .ok (.iaload, 1))
    (kk : W p l e R s m args below meth c H locs cells slots Q (F0 m (pc + 1) ls (.int (f x) :: rest))) : W p l e R s m args below meth c H locs cells slots Q (F0 m pc ls (.int (nI x) :: .ref q :: rest)) :=
  va_iald hexec hb hK hP q0 t0 ha ht (vp_in_nI h hn) hdg (by rw [nI_clamp (show x < 2 ^ 31 by omega)]; exact kk)
theorem kx_cald (hexec : p.tables.exec = Jvm.exec) (hb : c.code = cc) (hK : va_K D cl tys s) (hP : va_P D cl ws H) (q0 t0 : Nat) {cA : ClassId} {n : Nat} {f : Nat → Int32} (ha : ws[q0]? = some (q, .inl (cA, n, .inl f))) (ht : tys[t0]? = some (cA, .char)) {x : Nat} (h : x < n) (hn : n < 2 ^ 31) (hdg : decode cc pc = .ok (.caload, 1))
    (kk : W p l e R s m args below meth c H locs cells slots Q (F0 m (pc + 1) ls (.int (f x) :: rest))) : W p l e R s m args below meth c H locs cells slots Q (F0 m pc ls (.int (nI x) :: .ref q :: rest)) :=
  va_cald hexec hb hK hP q0 t0 ha ht (vp_in_nI h hn) hdg (by rw [nI_clamp (show x < 2 ^ 31 by omega)]; exact kk)
theorem kx_iast (hexec : p.tables.exec = Jvm.exec) (hb : c.code = cc) (hK : va_K D cl tys s) (hP : va_P D cl ws H) (hD : va_D A ws) (hS : va_S A H0 H locs) (q0 t0 : Nat) {cA : ClassId} {n : Nat} {f : Nat → Int32} (ha : ws[q0]? = some (q, .inl (cA, n, .inl f))) (ht : tys[t0]? = some (cA, .int)) {x : Nat} {v : Int32} (h : x < n) (hn : n < 2 ^ 31) (hdg : decode cc pc = .ok (.iastore, 1))
    (kk : ∀ (H1 : Heap) (locs1 : List Loc), va_P D cl (ws.set q0 (q, .inl (cA, n, .inl (upd f x v)))) H1 → va_D A (ws.set q0 (q, .inl (cA, n, .inl (upd f x v)))) → va_S A H0 H1 locs1 → W p l e R s m args below meth c H1 locs1 cells slots Q (F0 m (pc + 1) ls rest)) : W p l e R s m args below meth c H locs cells slots Q (F0 m pc ls (.int v :: .int (nI x) :: .ref q :: rest)) :=
  va_iast hexec hb hK hP hD hS q0 t0 ha ht (vp_in_nI h hn) hdg (by rw [nI_clamp (show x < 2 ^ 31 by omega)]; exact kk)
theorem lv_eqv {nL : Nat} {l1 l2 : List (Nat × Value)} (h : lv_has ls nL l1) (E : l1 = l2) : lv_has ls nL l2 := E ▸ h
theorem lv_ce {i : Nat} {v w : Value} {l1 l2 : List (Nat × Value)} (h : v = w) (t : l1 = l2) : (i, v) :: l1 = (i, w) :: l2 := by rw [h, t]
/-- the contract of a method that changes nothing: where it may begin, how it ends -/
def kp (av : List Value) (D : va_G) (ws : va_W) (tys : List (ClassId × FieldType)) : Array Value → State → Prop := fun v U => v = av.toArray ∧ va_P D vwCl ws U.heap ∧ va_K D vwCl tys U
def kr (o : Outcome) : Array Value → State → Outcome → State → Prop := fun _ st oc t => oc = o ∧ t.heap = st.heap
theorem kp_blind {av : List Value} : FrameBlind (kp av D ws tys) := fun a U g mk q => by
  obtain ⟨q0, qP, qK⟩ := q
  exact ⟨q0, qP, va_K.moved (u := U) (U := U.calling g mk a) (Vm.Alike.refl U.vm) qK⟩
/-- the contract of a method that writes -/
def kA (w : va_W) : Nat → Prop := fun q => ∃ (k : Nat) (e : va_E), w[k]? = some (q, e)
def kw (av : List Value) (D : va_G) (ws : va_W) (tys : List (ClassId × FieldType)) : Array Value → State → Prop := fun v U => v = av.toArray ∧ va_P D vwCl ws U.heap ∧ va_K D vwCl tys U ∧ va_D (fun _ => True) ws
def kq (D : va_G) (w0 w1 : va_W) (o : Outcome) : Array Value → State → Outcome → State → Prop := fun _ st oc t => oc = o ∧ va_P D vwCl w1 t.heap ∧ va_D (kA w0) w1 ∧ va_F (kA w0) st t
theorem kw_blind {av : List Value} : FrameBlind (kw av D ws tys) := fun a U g mk q => by
  obtain ⟨q0, qP, qK, qD⟩ := q
  exact ⟨q0, qP, va_K.moved (u := U) (U := U.calling g mk a) (Vm.Alike.refl U.vm) qK, qD⟩
theorem kA_self {B : Nat → Prop} (h : va_D B ws) : va_D (kA ws) ws := ⟨h.1, fun k q hk => ⟨k, q.2, hk⟩⟩
theorem kA_sub {B : Nat → Prop} {wc : va_W} (hD : va_D B ws) (isC : List Nat) (hC : isC.map (fun i => ws[i]?) = wc.map some) : ∀ q, kA wc q → B q := by
  rintro q ⟨k, e, h⟩
  have h1 : (isC.map (fun i => ws[i]?))[k]? = some (some (q, e)) := by rw [hC, List.getElem?_map, h]; rfl
  rw [List.getElem?_map] at h1
  cases hi : isC[k]? with
  | none => rw [hi] at h1; cases h1
  | some i => rw [hi] at h1; exact hD.2 i (q, e) (Option.some.inj h1)
/-- behind a call of a method that writes: the caller's other cells, and the callee's -/
theorem kj {B : Nat → Prop} {wc wr w1 : va_W} {H H1 : Heap} (hP : va_P D cl ws H) (hD : va_D B ws) (isC isR : List Nat) (hC : isC.map (fun i => ws[i]?) = wc.map some) (hR : isR.map (fun i => ws[i]?) = wr.map some) (hn : va_nd isR = true) (hdis : ∀ i ∈ isR, i ∉ isC)
    (hk : ∀ q : Nat, q < H.size → ¬ kA wc q → H1[q]? = H[q]?) (hP1 : va_P D cl w1 H1) (hD1 : va_D (kA wc) w1) : va_P D cl (wr ++ w1) H1 ∧ va_D B (wr ++ w1) := by
  have at' : ∀ {is : List Nat} {w : va_W}, is.map (fun i => ws[i]?) = w.map some → ∀ (k : Nat) (q : Nat × va_E), w[k]? = some q → ∃ i, is[k]? = some i ∧ ws[i]? = some q := by
    intro is w hs k q hq
    have h1 : (is.map (fun i => ws[i]?))[k]? = some (some q) := by rw [hs, List.getElem?_map, hq]; rfl
    rw [List.getElem?_map] at h1
    cases hi : is[k]? with
    | none => rw [hi] at h1; cases h1
    | some i => rw [hi] at h1; exact ⟨i, rfl, Option.some.inj h1⟩
  have apart : ∀ (k : Nat) (q : Nat × va_E), wr[k]? = some q → q.1 < H.size ∧ ¬ kA wc q.1 := by
    intro k q hq
    obtain ⟨i, h1, h2⟩ := at' hR k q hq
    refine ⟨(hP i q h2).lt, fun h => ?_⟩
    obtain ⟨k2, e, h⟩ := h
    obtain ⟨j, h3, h4⟩ := at' hC k2 (q.1, e) h
    have hij := hD.1 i j q (q.1, e) h2 h4 rfl
    subst hij
    exact hdis i (List.mem_of_getElem? h1) (List.mem_of_getElem? h3)
  refine ⟨va_P.app (fun k q hq => ?_) hP1, va_D.app (hD.sub isR hn hR) (hD1.weaken (fun k q _ h => kA_sub hD isC hC q.1 h)) (fun i j x y hx hy hxy => ?_)⟩
  · obtain ⟨i, h1, h2⟩ := at' hR k q hq
    obtain ⟨g1, g2⟩ := apart k q hq
    exact (hP i q h2).kept (hk q.1 g1 g2)
  · exact (apart i x hx).2 (by rw [hxy]; exact hD1.2 j y hy)
theorem kS {B : Nat → Prop} {wc : va_W} {H H1 : Heap} {L : List Loc} (hS : va_S B H0 H locs) (hsub : ∀ q, kA wc q → B q) (hz : H.size ≤ H1.size) (hk : ∀ q : Nat, q < H.size → ¬ kA wc q → H1[q]? = H[q]?) (hL : ∀ q ∈ L, kA wc q.base) : va_S B H0 H1 (locs ++ L) := by
  refine ⟨Nat.le_trans hS.1 hz, fun q h1 h2 => ?_, fun x hx => ?_⟩
  · rw [hk q (Nat.lt_of_lt_of_le h1 hS.1) (fun h => h2 (hsub q h))]
    exact hS.2.1 q h1 h2
  · rcases List.mem_append.mp hx with h | h
    · exact hS.2.2 x h
    · exact hsub _ (hL x h)
variable {y : MethodName} {bytes : ByteArray} {maxL nL n index : Nat} {ret : Option FieldType} {wds : List Cond} {rm : Room} {Ts : List Cond} {own C : String} {b : Addr} {As st0 : List Value} {wc wr w1 : va_W} {tc : List (ClassId × FieldType)} {v : Option Value}
theorem kr_V (S : CallFix p m c cc nL s args Ts own) (hM : Met l y wds rm (kp (.ref b :: As) D wc tc) (kr (.returned v)) 0 0 (fun _ => False)) (cw : CallW R s args own C index y bytes maxL ret wds rm 0 0 n) (hP : va_P D vwCl wc H) (hK : va_K D vwCl tc s) (hr : ∃ cell : Cell, H[b]? = some cell ∧ cell.vm.isStatics = false ∧ s.vm.findClass C = some cell.cls)
    (hn : As.length = n) (hz : ls.size = nL) (hst : st0 = As.reverse ++ .ref b :: rest) (hW : (rest.map fun v => v.category).sum ≤ 8) (hdg : decode cc pc = .ok (.invokevirtual index, 3)) (hf : cells + 0 ≤ R.cells ∧ slots + 0 ≤ R.slots) (kk : W p l e R s m args below meth c H locs cells slots Q (F0 m (pc + 3) ls (v.toList ++ rest))) : W p l e R s m args below meth c H locs cells slots Q (F0 m pc ls st0) := by
  have hrun := va_runV (H := H) (below := below) (meth := meth) (e := e) (locs := locs) (cells := cells) (slots := slots) (g := F0 m pc ls st0) (rest := rest) S hM cw ⟨kp_blind, hr, fun U hU hWm => ⟨rfl, by rw [hU]; exact hP, va_K.moved hWm.alike hK⟩⟩ rfl hn hz hst (lv_room hW) hdg hf
  intro T hT X
  obtain ⟨v', st₀, t, T', L, h0, X', hL, e1, -, ⟨hv, hh⟩, st⟩ := hrun T hT X
  cases hv
  obtain ⟨t2, a1, b1⟩ := kk T' (by rw [e1, hh, h0]) (Stand.forget X' (fun q h => (hL q h).elim))
  exact ⟨t2, st t2 a1, b1⟩
theorem kr_S (S : CallFix p m c cc nL s args Ts own) (hM : Met l y wds rm (kp As D wc tc) (kr (.returned v)) 0 0 (fun _ => False)) (cw : CallB R s args own index y bytes maxL ret wds rm 0 0 n ∧ (Cond.static y).before args s = true) (hP : va_P D vwCl wc H) (hK : va_K D vwCl tc s)
    (hn : As.length = n) (hz : ls.size = nL) (hst : st0 = As.reverse ++ rest) (hW : (rest.map fun v => v.category).sum ≤ 8) (hdg : decode cc pc = .ok (.invokestatic index, 3)) (hf : cells + 0 ≤ R.cells ∧ slots + 0 ≤ R.slots) (kk : W p l e R s m args below meth c H locs cells slots Q (F0 m (pc + 3) ls (v.toList ++ rest))) : W p l e R s m args below meth c H locs cells slots Q (F0 m pc ls st0) := by
  have hrun := va_runS (H := H) (below := below) (meth := meth) (e := e) (locs := locs) (cells := cells) (slots := slots) (g := F0 m pc ls st0) (rest := rest) S hM cw ⟨kp_blind, fun U hU hWm => ⟨rfl, by rw [hU]; exact hP, va_K.moved hWm.alike hK⟩⟩ rfl hn hz hst (lv_room hW) hdg hf
  intro T hT X
  obtain ⟨v', st₀, t, T', L, h0, X', hL, e1, -, ⟨hv, hh⟩, st⟩ := hrun T hT X
  cases hv
  obtain ⟨t2, a1, b1⟩ := kk T' (by rw [e1, hh, h0]) (Stand.forget X' (fun q h => (hL q h).elim))
  exact ⟨t2, st t2 a1, b1⟩
theorem kw_V (S : CallFix p m c cc nL s args Ts own) (hM : Met l y wds rm (kw (.ref b :: As) D wc tc) (kq D wc w1 (.returned v)) 0 0 (kA wc)) (cw : CallW R s args own C index y bytes maxL ret wds rm 0 0 n) (hP : va_P D vwCl ws H) (hD : va_D A ws) (hK : va_K D vwCl tc s) (hS : va_S A H0 H locs) (isC isR : List Nat)
    (hC0 : isC.filterMap (fun i => ws[i]?) = wc) (hC : isC.map (fun i => ws[i]?) = wc.map some) (hR : isR.map (fun i => ws[i]?) = wr.map some) (hnC : va_nd isC = true) (hnR : va_nd isR = true) (hdis : ∀ i ∈ isR, i ∉ isC) (hr : ∃ cell : Cell, H[b]? = some cell ∧ cell.vm.isStatics = false ∧ s.vm.findClass C = some cell.cls)
    (hn : As.length = n) (hz : ls.size = nL) (hst : st0 = As.reverse ++ .ref b :: rest) (hW : (rest.map fun v => v.category).sum ≤ 8) (hdg : decode cc pc = .ok (.invokevirtual index, 3)) (hf : cells + 0 ≤ R.cells ∧ slots + 0 ≤ R.slots) (kk : ∀ (H1 : Heap) (locs1 : List Loc), va_P D vwCl (wr ++ w1) H1 → va_D A (wr ++ w1) → va_S A H0 H1 locs1 → W p l e R s m args below meth c H1 locs1 cells slots Q (F0 m (pc + 3) ls (v.toList ++ rest))) : W p l e R s m args below meth c H locs cells slots Q (F0 m pc ls st0) := by
  have hrun := va_runV (H := H) (below := below) (meth := meth) (e := e) (locs := locs) (cells := cells) (slots := slots) (g := F0 m pc ls st0) (rest := rest) S hM cw ⟨kw_blind, hr, fun U hU hWm => ⟨rfl, by rw [hU]; exact hP.sub isC hC0, va_K.moved hWm.alike hK, (hD.sub isC hnC hC).weaken (fun _ _ _ _ => trivial)⟩⟩ rfl hn hz hst (lv_room hW) hdg hf
  intro T hT X
  obtain ⟨v', st₀, t, T', L, h0, X', hL, e1, -, ⟨hv, hP1, hD1, hF1, hF2⟩, st⟩ := hrun T hT X
  cases hv
  rw [h0] at hF1 hF2
  obtain ⟨g1, g2⟩ := kj hP hD isC isR hC hR hnR hdis hF2 hP1 hD1
  obtain ⟨t2, a1, b1⟩ := kk t.heap _ g1 g2 (kS hS (kA_sub hD isC hC) hF1 hF2 hL) T' e1 X'
  exact ⟨t2, st t2 a1, b1⟩
/-- ends -/
theorem kr_iret (hexec : p.tables.exec = Jvm.exec) (hb : c.code = cc) (hr : meth.sig.returnType = some .int) (hlocks : meth.locks = false) {v v' : Int32} (E : v = v') (hH : H = s.heap) {pc : Nat} {ls : Array Slot} (hdg : decode cc pc = .ok (.ireturn, 1)) : W p l e R s m args below meth c H [] cells slots (MQ below (kr (.returned (some (.int v')))) args s cells slots (fun _ => False)) (F0 m pc ls [.int v]) :=
  W.iret hexec hb hr (fun t ht _ => ⟨by rw [E], ht.trans hH⟩) (fun _ h => absurd h List.not_mem_nil) hdg hlocks
theorem kr_zret (hexec : p.tables.exec = Jvm.exec) (hb : c.code = cc) (hr : meth.sig.returnType = some .boolean) (hlocks : meth.locks = false) {v : Int32} {v' : Bool} (E : v = bI v') (hH : H = s.heap) {pc : Nat} {ls : Array Slot} (hdg : decode cc pc = .ok (.ireturn, 1)) : W p l e R s m args below meth c H [] cells slots (MQ below (kr (.returned (some (.int (bI v'))))) args s cells slots (fun _ => False)) (F0 m pc ls [.int v]) :=
  W.zret hexec hb hr (by rw [E]; cases v' <;> rfl) (fun t ht _ => ⟨by rw [E], ht.trans hH⟩) (fun _ h => absurd h List.not_mem_nil) hdg hlocks
theorem kr_lret (hexec : p.tables.exec = Jvm.exec) (hb : c.code = cc) (hr : meth.sig.returnType = some .long) (hlocks : meth.locks = false) {v v' : Int64} (E : v = v') (hH : H = s.heap) {pc : Nat} {ls : Array Slot} (hdg : decode cc pc = .ok (.lreturn, 1)) : W p l e R s m args below meth c H [] cells slots (MQ below (kr (.returned (some (.long v')))) args s cells slots (fun _ => False)) (F0 m pc ls [.long v]) :=
  W.lret hexec hb hr (fun t ht _ => ⟨by rw [E], ht.trans hH⟩) (fun _ h => absurd h List.not_mem_nil) hdg hlocks
theorem kr_dret (hexec : p.tables.exec = Jvm.exec) (hb : c.code = cc) (hr : meth.sig.returnType = some .double) (hlocks : meth.locks = false) {v v' : UInt64} (E : v = v') (hH : H = s.heap) {pc : Nat} {ls : Array Slot} (hdg : decode cc pc = .ok (.dreturn, 1)) : W p l e R s m args below meth c H [] cells slots (MQ below (kr (.returned (some (.double v')))) args s cells slots (fun _ => False)) (F0 m pc ls [.double v]) :=
  W.dret hexec hb hr (fun t ht _ => ⟨by rw [E], ht.trans hH⟩) (fun _ h => absurd h List.not_mem_nil) hdg hlocks
theorem kq_iret {w0 w1 : va_W} (hexec : p.tables.exec = Jvm.exec) (hb : c.code = cc) (hr : meth.sig.returnType = some .int) (hlocks : meth.locks = false) {v v' : Int32} (E : v = v') (hP : va_P D vwCl w1 H) (hD : va_D (kA w0) w1) (hS : va_S (kA w0) s.heap H locs) {pc : Nat} {ls : Array Slot} (hdg : decode cc pc = .ok (.ireturn, 1)) : W p l e R s m args below meth c H locs cells slots (MQ below (kq D w0 w1 (.returned (some (.int v')))) args s cells slots (kA w0)) (F0 m pc ls [.int v]) :=
  W.iret hexec hb hr (fun t ht _ => ⟨by rw [E], by rw [ht]; exact hP, hD, hS.F ht⟩) hS.2.2 hdg hlocks
theorem kq_zret {w0 w1 : va_W} (hexec : p.tables.exec = Jvm.exec) (hb : c.code = cc) (hr : meth.sig.returnType = some .boolean) (hlocks : meth.locks = false) {v : Int32} {v' : Bool} (E : v = bI v') (hP : va_P D vwCl w1 H) (hD : va_D (kA w0) w1) (hS : va_S (kA w0) s.heap H locs) {pc : Nat} {ls : Array Slot} (hdg : decode cc pc = .ok (.ireturn, 1)) : W p l e R s m args below meth c H locs cells slots (MQ below (kq D w0 w1 (.returned (some (.int (bI v'))))) args s cells slots (kA w0)) (F0 m pc ls [.int v]) :=
  W.zret hexec hb hr (by rw [E]; cases v' <;> rfl) (fun t ht _ => ⟨by rw [E], by rw [ht]; exact hP, hD, hS.F ht⟩) hS.2.2 hdg hlocks
theorem kq_lret {w0 w1 : va_W} (hexec : p.tables.exec = Jvm.exec) (hb : c.code = cc) (hr : meth.sig.returnType = some .long) (hlocks : meth.locks = false) {v v' : Int64} (E : v = v') (hP : va_P D vwCl w1 H) (hD : va_D (kA w0) w1) (hS : va_S (kA w0) s.heap H locs) {pc : Nat} {ls : Array Slot} (hdg : decode cc pc = .ok (.lreturn, 1)) : W p l e R s m args below meth c H locs cells slots (MQ below (kq D w0 w1 (.returned (some (.long v')))) args s cells slots (kA w0)) (F0 m pc ls [.long v]) :=
  W.lret hexec hb hr (fun t ht _ => ⟨by rw [E], by rw [ht]; exact hP, hD, hS.F ht⟩) hS.2.2 hdg hlocks
theorem kq_dret {w0 w1 : va_W} (hexec : p.tables.exec = Jvm.exec) (hb : c.code = cc) (hr : meth.sig.returnType = some .double) (hlocks : meth.locks = false) {v v' : UInt64} (E : v = v') (hP : va_P D vwCl w1 H) (hD : va_D (kA w0) w1) (hS : va_S (kA w0) s.heap H locs) {pc : Nat} {ls : Array Slot} (hdg : decode cc pc = .ok (.dreturn, 1)) : W p l e R s m args below meth c H locs cells slots (MQ below (kq D w0 w1 (.returned (some (.double v')))) args s cells slots (kA w0)) (F0 m pc ls [.double v]) :=
  W.dret hexec hb hr (fun t ht _ => ⟨by rw [E], by rw [ht]; exact hP, hD, hS.F ht⟩) hS.2.2 hdg hlocks
theorem kq_vret {w0 w1 : va_W} (hexec : p.tables.exec = Jvm.exec) (hb : c.code = cc) (hr : meth.sig.returnType = none) (hlocks : meth.locks = false) (hP : va_P D vwCl w1 H) (hD : va_D (kA w0) w1) (hS : va_S (kA w0) s.heap H locs) {pc : Nat} {ls : Array Slot} (hdg : decode cc pc = .ok (.return_, 1)) : W p l e R s m args below meth c H locs cells slots (MQ below (kq D w0 w1 (.returned none)) args s cells slots (kA w0)) (F0 m pc ls []) :=
  W.vret hexec hb hr (fun t ht _ => ⟨rfl, by rw [ht]; exact hP, hD, hS.F ht⟩) hS.2.2 hdg hlocks
end KX
end
section
/-! THE NUMBERS: the hall as one function z of 57 places (0..2 settings, 3 rows, 4 columns, 5 + 4r.. a row, 45 + 3k.. a column) -/
abbrev ZZ : Type := Nat → Int32
def nR (z : ZZ) : Nat := (z 3).toNatClampNeg
def nC (z : ZZ) : Nat := (z 4).toNatClampNeg
def nS (z : ZZ) (r : Nat) : Nat := (z (5 + 4 * r + 2)).toNatClampNeg
/-- the counts are in range -/
def WF (z : ZZ) : Prop := z 3 = nI (nR z) ∧ nR z ≤ 10 ∧ z 4 = nI (nC z) ∧ nC z ≤ 4 ∧ ∀ r, r < nR z → z (5 + 4 * r + 2) = nI (nS z r) ∧ nS z r ≤ 12
theorem wf_R {z : ZZ} (h : WF z) : z 3 = nI (nR z) := h.1
theorem wf_R10 {z : ZZ} (h : WF z) : nR z ≤ 10 := h.2.1
theorem wf_C {z : ZZ} (h : WF z) : z 4 = nI (nC z) := h.2.2.1
theorem wf_C4 {z : ZZ} (h : WF z) : nC z ≤ 4 := h.2.2.2.1
theorem wf_S {z : ZZ} (h : WF z) {r : Nat} (hr : r < nR z) : z (5 + 4 * r + 2) = nI (nS z r) := (h.2.2.2.2 r hr).1
theorem wf_S12 {z : ZZ} (h : WF z) {r : Nat} (hr : r < nR z) : nS z r ≤ 12 := (h.2.2.2.2 r hr).2
abbrev kT (cI cC cH cL : ClassId) : List (ClassId × FieldType) := [(cI, .int), (cC, .char), (cH, .object RX0)]
abbrev MW (a : Nat → Nat) (cI : ClassId) (z : ZZ) (st : Int32) (hs : ZZ) (le : Int32) (tx : ZZ) (th : Int32) (pa : ZZ) (rd nu pt : Int32) (wy : ZZ) (ha : Int64) : va_W := [(a 0, .inr (5, [.ref (a 1), .int st, .ref (a 2), .int le, .ref (a 3), .int th, .ref (a 4), .int rd, .int nu, .int pt, .ref (a 5), .long ha])), (a 1, .inl (cI, 57, .inl z)), (a 2, .inl (cI, 342, .inl hs)), (a 3, .inl (cI, 60, .inl tx)), (a 4, .inl (cI, 33, .inl pa)), (a 5, .inl (cI, 120, .inl wy))]
abbrev HR (b : Nat → Nat) (cI : ClassId) (ro : Int32) (di hg se ta : ZZ) (co : Int32) (cd cs ch sg : ZZ) : va_W := [(b 0, .inr (0, [.int ro, .ref (b 1), .ref (b 2), .ref (b 3), .ref (b 4), .int co, .ref (b 5), .ref (b 6), .ref (b 7), .ref (b 8)])), (b 1, .inl (cI, 10, .inl di)), (b 2, .inl (cI, 10, .inl hg)), (b 3, .inl (cI, 10, .inl se)), (b 4, .inl (cI, 10, .inl ta)), (b 5, .inl (cI, 4, .inl cd)), (b 6, .inl (cI, 4, .inl cs)), (b 7, .inl (cI, 4, .inl ch)), (b 8, .inl (cI, 3, .inl sg))]
abbrev HW (b : Nat → Nat) (cI : ClassId) (z : ZZ) : va_W := HR b cI (z 3) (fun j => z (5 + 4 * j)) (fun j => z (5 + 4 * j + 1)) (fun j => z (5 + 4 * j + 2)) (fun j => z (5 + 4 * j + 3)) (z 4) (fun j => z (45 + 3 * j)) (fun j => z (45 + 3 * j + 1)) (fun j => z (45 + 3 * j + 2)) z
abbrev SW (v : Nat → Nat) (o : Nat) (cI : ClassId) (lk : Int32) (pe cn rk : ZZ) : va_W := [(v 0, .inr (3, [.ref o, .int lk, .ref (v 1), .ref (v 2), .ref (v 3)])), (v 1, .inl (cI, 120, .inl pe)), (v 2, .inl (cI, 120, .inl cn)), (v 3, .inl (cI, 120, .inl rk))]
/-! loops: up and down -/
section LOOPS
variable {p : Program} {l : Launch} {e : Env} {R : Room} {s : State} {m : MethodId} {args : Array Value} {below : List Frame} {meth : Method} {c : Code} {cells slots : Nat} {Q : State → Prop} {pc : Nat}
section
variable {H : Heap} {locs : List Loc}
theorem kx_up (P : Nat → Array Slot → Prop) (lo hi : Nat) (hlo : lo ≤ hi) (ls : Array Slot) (h0 : P lo ls) (step : ∀ (k : Nat) (ls : Array Slot), lo ≤ k → k ≤ hi → P k ls → (∀ ls', k < hi → P (k + 1) ls' → W p l e R s m args below meth c H locs cells slots Q (F0 m pc ls' [])) → W p l e R s m args below meth c H locs cells slots Q (F0 m pc ls [])) : W p l e R s m args below meth c H locs cells slots Q (F0 m pc ls []) := by
  have K : ∀ (n k : Nat) (ls : Array Slot), hi - k < n → lo ≤ k → k ≤ hi → P k ls → W p l e R s m args below meth c H locs cells slots Q (F0 m pc ls []) := by
    intro n
    induction n with
    | zero => intro k ls h; omega
    | succ n ih => intro k ls h h1 h2 hp; exact step k ls h1 h2 hp (fun ls' hk hp' => ih (k + 1) ls' (by omega) (by omega) (by omega) hp')
  exact K (hi - lo + 1) lo ls (by omega) (Nat.le_refl _) hlo h0
theorem kx_dn (P : Nat → Array Slot → Prop) (lo hi : Nat) (hlo : lo ≤ hi) (ls : Array Slot) (h0 : P hi ls) (step : ∀ (k : Nat) (ls : Array Slot), lo ≤ k → k ≤ hi → P k ls → (∀ ls', lo < k → P (k - 1) ls' → W p l e R s m args below meth c H locs cells slots Q (F0 m pc ls' [])) → W p l e R s m args below meth c H locs cells slots Q (F0 m pc ls [])) : W p l e R s m args below meth c H locs cells slots Q (F0 m pc ls []) := by
  have K : ∀ (n k : Nat) (ls : Array Slot), k - lo < n → lo ≤ k → k ≤ hi → P k ls → W p l e R s m args below meth c H locs cells slots Q (F0 m pc ls []) := by
    intro n
    induction n with
    | zero => intro k ls h; omega
    | succ n ih => intro k ls h h1 h2 hp; exact step k ls h1 h2 hp (fun ls' hk hp' => ih (k - 1) ls' (by omega) (by omega) (by omega) hp')
  exact K (hi - lo + 1) hi ls (by omega) hlo (Nat.le_refl _) h0
end
theorem kx_upW (P : Nat → Heap → List Loc → Array Slot → Prop) (lo hi : Nat) (hlo : lo ≤ hi) (H : Heap) (lc : List Loc) (ls : Array Slot) (h0 : P lo H lc ls) (step : ∀ (k : Nat) (H : Heap) (lc : List Loc) (ls : Array Slot), lo ≤ k → k ≤ hi → P k H lc ls → (∀ H' lc' ls', k < hi → P (k + 1) H' lc' ls' → W p l e R s m args below meth c H' lc' cells slots Q (F0 m pc ls' [])) → W p l e R s m args below meth c H lc cells slots Q (F0 m pc ls [])) : W p l e R s m args below meth c H lc cells slots Q (F0 m pc ls []) := by
  have K : ∀ (n k : Nat) (H : Heap) (lc : List Loc) (ls : Array Slot), hi - k < n → lo ≤ k → k ≤ hi → P k H lc ls → W p l e R s m args below meth c H lc cells slots Q (F0 m pc ls []) := by
    intro n
    induction n with
    | zero => intro k H lc ls h; omega
    | succ n ih => intro k H lc ls h h1 h2 hp; exact step k H lc ls h1 h2 hp (fun H' lc' ls' hk hp' => ih (k + 1) H' lc' ls' (by omega) (by omega) (by omega) hp')
  exact K (hi - lo + 1) lo H lc ls (by omega) (Nat.le_refl _) hlo h0
theorem kx_dnW (P : Nat → Heap → List Loc → Array Slot → Prop) (lo hi : Nat) (hlo : lo ≤ hi) (H : Heap) (lc : List Loc) (ls : Array Slot) (h0 : P hi H lc ls) (step : ∀ (k : Nat) (H : Heap) (lc : List Loc) (ls : Array Slot), lo ≤ k → k ≤ hi → P k H lc ls → (∀ H' lc' ls', lo < k → P (k - 1) H' lc' ls' → W p l e R s m args below meth c H' lc' cells slots Q (F0 m pc ls' [])) → W p l e R s m args below meth c H lc cells slots Q (F0 m pc ls [])) : W p l e R s m args below meth c H lc cells slots Q (F0 m pc ls []) := by
  have K : ∀ (n k : Nat) (H : Heap) (lc : List Loc) (ls : Array Slot), k - lo < n → lo ≤ k → k ≤ hi → P k H lc ls → W p l e R s m args below meth c H lc cells slots Q (F0 m pc ls []) := by
    intro n
    induction n with
    | zero => intro k H lc ls h; omega
    | succ n ih => intro k H lc ls h h1 h2 hp; exact step k H lc ls h1 h2 hp (fun H' lc' ls' hk hp' => ih (k - 1) H' lc' ls' (by omega) (by omega) (by omega) hp')
  exact K (hi - lo + 1) hi H lc ls (by omega) hlo (Nat.le_refl _) h0
end LOOPS
/-- sums, counts -/
def sumN : Nat → (Nat → Nat) → Nat
  | 0, _ => 0
  | n + 1, f => sumN n f + f n
theorem sumN_s (n : Nat) (f : Nat → Nat) : sumN (n + 1) f = sumN n f + f n := rfl
theorem sumN_0 (f : Nat → Nat) : sumN 0 f = 0 := rfl
def sumI : Nat → (Nat → Int32) → Int32
  | 0, _ => nI 0
  | n + 1, f => sumI n f + f n
theorem sumI_s (n : Nat) (f : Nat → Int32) : sumI (n + 1) f = sumI n f + f n := rfl
def itN {α : Type} : Nat → (Nat → α → α) → α → α
  | 0, _, x => x
  | n + 1, f, x => f n (itN n f x)
theorem itN_s {α : Type} (n : Nat) (f : Nat → α → α) (x : α) : itN (n + 1) f x = f n (itN n f x) := rfl
def b2 (b : Bool) : Nat := if b = true then 1 else 0
/-- what the reference asks of a hall -/
def tk (z : ZZ) (r s : Nat) : Bool := decide ((z (5 + 4 * r + 3) >>> (nI s &&& 31)) &&& nI 1 = nI 1)
def side (z : ZZ) (r s : Nat) : Int32 := nI (2 * s) - (nI (nS z r) - nI 1)
def headP (z : ZZ) (r : Nat) : Int32 := ((z (5 + 4 * r + 1) + z 1) + z 2) - z 0
def eyeP (z : ZZ) (r : Nat) : Int32 := (z (5 + 4 * r + 1) + z 1) - z 0
def higher (z : ZZ) (a r : Nat) : Bool := !decide (headP z a * z (5 + 4 * r) ≤ eyeP z r * z (5 + 4 * a))
def absI (x : Int32) : Int32 := if x < 0 then -x else x
def nearH (z : ZZ) (a w r s : Nat) : Bool := !decide (z (5 + 4 * r) ≤ absI (side z a w * z (5 + 4 * r) - side z r s * z (5 + 4 * a)))
def blk (z : ZZ) (a w r s : Nat) : Bool := decide (a < r) && (higher z a r && nearH z a w r s)
def cblk (z : ZZ) (k r s : Nat) : Bool := !decide (z (5 + 4 * r) ≤ z (45 + 3 * k)) && !decide (z (45 + 3 * k + 2) * z (5 + 4 * r) < absI (z (45 + 3 * k + 1) * z (5 + 4 * r) - side z r s * z (45 + 3 * k)))
def pplA (z : ZZ) (a r s : Nat) : Nat := sumN (nS z a) fun w => b2 (tk z a w && blk z a w r s)
def people (z : ZZ) (r s : Nat) : Nat := sumN r fun a => pplA z a r s
def wthn (v lo hi : Int32) : Bool := !decide (v < lo) && !decide (hi < v)
def isRowB (z : ZZ) (r : Int32) : Bool := wthn r (nI 0) (nI (nR z) - nI 1)
def isColB (z : ZZ) (k : Int32) : Bool := wthn k (nI 0) (nI (nC z) - nI 1)
end
section
/-- more of what the reference asks of a hall -/
def allN : Nat → (Nat → Bool) → Bool
  | 0, _ => true
  | n + 1, f => allN n f && f n
theorem allN_s (n : Nat) (f : Nat → Bool) : allN (n + 1) f = (allN n f && f n) := rfl
theorem allN_f {n : Nat} {f : Nat → Bool} {k : Nat} (hk : k < n) (h : f k = false) : allN n f = false := by
  induction n with
  | zero => omega
  | succ n ih =>
    rw [allN_s]
    rcases Nat.lt_or_ge k n with q | q
    · rw [ih q]; rfl
    · rw [show n = k by omega, h]; exact Bool.and_false _
theorem allN_t {n : Nat} {f : Nat → Bool} (h : ∀ k, k < n → f k = true) : allN n f = true := by
  induction n with
  | zero => rfl
  | succ n ih => rw [allN_s, ih (fun k hk => h k (by omega)), h n (by omega)]; rfl
theorem allN_at {n : Nat} {f : Nat → Bool} (h : allN n f = true) {k : Nat} (hk : k < n) : f k = true := by
  cases hf : f k with
  | true => rfl
  | false => rw [allN_f hk hf] at h; cases h
def WD (z : ZZ) : Prop := ∀ r, r < nR z → ¬ z (5 + 4 * r) = 0
def colsW (z : ZZ) (r s : Nat) (wo : Int32) : Nat := sumN (nC z) fun k => b2 (!decide (nI k = wo) && cblk z k r s)
def ways (z : ZZ) (r s : Nat) : Nat := people z r s + colsW z r s (-1)
def seesB (z : ZZ) (r s : Nat) : Bool := decide (ways z r s = 0)
def canAdd (z : ZZ) (d : Int32) : Bool := decide (nR z < 10) && allN (nR z) fun r => !decide (z (5 + 4 * r) = d)
def seatsAll (z : ZZ) : Nat := sumN (nR z) fun r => nS z r
def takenIn (z : ZZ) (r : Nat) : Nat := sumN (nS z r) fun w => b2 (tk z r w)
def takenAll (z : ZZ) : Nat := sumN (nR z) fun r => takenIn z r
def inWayOfI (z : ZZ) (r f m : Nat) : Int32 := if allN m (fun j => !tk z r (f + j)) = true then nI (sumN m fun j => ways z r (f + j)) else -1
def pfS (z : ZZ) (m r f : Nat) (p : Int32 × Int32) : Int32 × Int32 := if inWayOfI z r f m = -1 then p else if p.1 = -1 then (nI (100 * r + f), inWayOfI z r f m) else if p.2 ≤ inWayOfI z r f m then p else (nI (100 * r + f), inWayOfI z r f m)
def pfR (z : ZZ) (m r : Nat) (p : Int32 × Int32) : Int32 × Int32 := itN (nS z r + 1 - m) (pfS z m r) p
def placeForI (z : ZZ) (m : Nat) : Int32 := (itN (nR z) (pfR z m) (-1, nI 0)).1
def upw (v b : Int32) : Int32 := if v ≤ 0 then -((-v) / b) else ((v + b) - nI 1) / b
def hgtFor (z : ZZ) (r a : Nat) : Int32 := (upw (headP z a * z (5 + 4 * r)) (z (5 + 4 * a)) - z 1) + z 0
def lfS (z : ZZ) (r a : Nat) (x : Int32) : Int32 := if hgtFor z r a ≤ x then x else hgtFor z r a
def leastForI (z : ZZ) (r : Nat) : Int32 := itN r (lfS z r) (nI 0)
def seeIn (z : ZZ) (r : Nat) (t : Bool) : Nat := sumN (nS z r) fun w => b2 ((!t || tk z r w) && seesB z r w)
def seeing (z : ZZ) (t : Bool) : Nat := sumN (nR z) fun r => seeIn z r t
def rowNowI (z : ZZ) (r wh : Nat) : Int32 := match wh with
  | 0 => z (5 + 4 * r)
  | 1 => z (5 + 4 * r + 1)
  | 2 => nI (nS z r)
  | 3 => nI (takenIn z r)
  | 4 => nI (seeIn z r false)
  | _ => z (5 + 4 * r + 1) - (if r = 0 then nI 0 else z (5 + 4 * (r - 1) + 1))
def blkA (z : ZZ) (r s : Nat) (t : Bool) (b : Nat) : Nat := sumN (nS z b) fun w => b2 ((tk z b w && blk z r s b w) && (!t || seesB z b w))
def blkd (z : ZZ) (r s : Nat) (t : Bool) : Nat := sumN (nR z - (r + 1)) fun j => blkA z r s t (r + 1 + j)
def isAheadB (z wy : ZZ) (r s r2 s2 : Nat) : Bool :=
  if wy (12 * r2 + s2) - wy (12 * r + s) = 0 ∧ r = r2 then
    (if 0 < absI (side z r s2) - absI (side z r s) then true else decide (absI (side z r s2) - absI (side z r s) = 0) && decide (s < s2))
  else (if 0 < wy (12 * r2 + s2) - wy (12 * r + s) then true else decide (wy (12 * r2 + s2) - wy (12 * r + s) = 0) && decide (r < r2))
def sAhR (z wy : ZZ) (r s : Nat) (t : Bool) (o : Nat) : Nat := sumN (nS z o) fun k => b2 ((!t || !tk z o k) && isAheadB z wy o k r s)
def sAh (z wy : ZZ) (r s : Nat) (t : Bool) : Nat := sumN (nR z) fun o => sAhR z wy r s t o
def cBehR (z : ZZ) (k r : Nat) : Nat := sumN (nS z r) fun w => b2 (cblk z k r w)
def cBeh (z : ZZ) (k : Nat) : Nat := sumN (nR z) fun r => cBehR z k r
def pairsR (z : ZZ) (r : Nat) : Nat := sumN (nS z r) fun w => if tk z r w = true then people z r w else 0
def pairsN (z : ZZ) : Nat := sumN (nR z) fun r => pairsR z r
def lgS (z : ZZ) (r w : Nat) (p : Int32 × Int32) : Int32 × Int32 := let h := if tk z r w = true then nI 0 else p.1 + nI 1; (h, if h ≤ p.2 then p.2 else h)
def lgR (z : ZZ) (r : Nat) (x : Int32) : Int32 := (itN (nS z r) (lgS z r) (nI 0, x)).2
def lgI (z : ZZ) : Int32 := itN (nR z) (lgR z) (nI 0)
def seeWoR (z : ZZ) (c : Int32) (r : Nat) : Nat := sumN (nS z r) fun w => b2 (decide (people z r w + colsW z r w c = 0))
def seeWo (z : ZZ) (c : Int32) : Nat := sumN (nR z) fun r => seeWoR z c r
def woS (z : ZZ) (k : Nat) (p : Int32 × Int32) : Int32 × Int32 := if nI (seeWo z (nI k)) ≤ p.2 then p else (nI k, nI (seeWo z (nI k)))
def worstI (z : ZZ) : Int32 := (itN (nC z) (woS z) (-1, -1)).1
def isSeatB (z : ZZ) (r s : Int32) : Bool := isRowB z r && wthn s (nI 0) (nI (nS z r.toNatClampNeg) - nI 1)
def bkS (z : ZZ) (r s a w : Nat) (x : Int32) : Int32 := if (tk z a w && blk z a w r s) = true then nI (100 * a + w) else x
def bkR (z : ZZ) (r s a : Nat) (x : Int32) : Int32 := itN (nS z a) (fun j => bkS z r s a (nS z a - 1 - j)) x
def blockerI (z : ZZ) (r s : Nat) : Int32 := itN r (bkR z r s) (-1)
theorem kx_subm1 (x : Int32) : x + Int32.ofInt (-1) = x - nI 1 := by
  rw [Int32.sub_eq_add_neg]; rfl
theorem kx_pm1 {k : Nat} (h : 0 < k) : nI k - nI 1 = nI (k - 1) := pk_sub h
theorem isRow_out {z : ZZ} (hw : WF z) {ro : Int32} (h : isRowB z ro = true) : ∃ r, r < nR z ∧ ro = nI r := by
  have hR := wf_R10 hw
  unfold isRowB wthn at h
  rw [Bool.and_eq_true, Bool.not_eq_true', Bool.not_eq_true', decide_eq_false_iff_not, decide_eq_false_iff_not] at h
  obtain ⟨h1, h2⟩ := h
  rcases Nat.eq_zero_or_pos (nR z) with q | q
  · exfalso
    rw [q] at h2
    have h3 : nI 0 - nI 1 = (-1 : Int32) := by decide
    rw [h3] at h2
    have h4 : ¬ ro.toInt < 0 := fun q => h1 (Int32.lt_iff_toInt_lt.mpr q)
    exact h2 (Int32.lt_iff_toInt_lt.mpr (by have : (-1 : Int32).toInt = -1 := by decide
                                            omega))
  · rw [kx_pm1 q] at h2
    obtain ⟨j, hj, rfl⟩ := nI_of h1
    refine ⟨j, ?_, rfl⟩
    rcases Nat.lt_or_ge j (nR z) with g | g
    · exact g
    · exact absurd (nI_lt (show nR z - 1 < j by omega) hj) h2
theorem wthn_out {n : Nat} {v : Int32} (hn : n ≤ 1000) (h : wthn v (nI 0) (nI n - nI 1) = true) : ∃ j, j < n ∧ v = nI j := by
  unfold wthn at h
  rw [Bool.and_eq_true, Bool.not_eq_true', Bool.not_eq_true', decide_eq_false_iff_not, decide_eq_false_iff_not] at h
  obtain ⟨h1, h2⟩ := h
  rcases Nat.eq_zero_or_pos n with q | q
  · exfalso
    rw [q] at h2
    have h3 : nI 0 - nI 1 = (-1 : Int32) := by decide
    rw [h3] at h2
    have h4 : ¬ v.toInt < 0 := fun q => h1 (Int32.lt_iff_toInt_lt.mpr q)
    exact h2 (Int32.lt_iff_toInt_lt.mpr (by have : (-1 : Int32).toInt = -1 := by decide
                                            omega))
  · rw [kx_pm1 q] at h2
    obtain ⟨j, hj, rfl⟩ := nI_of h1
    refine ⟨j, ?_, rfl⟩
    rcases Nat.lt_or_ge j n with g | g
    · exact g
    · exact absurd (nI_lt (show n - 1 < j by omega) hj) h2
theorem sumN_b {n b : Nat} {f : Nat → Nat} (h : ∀ k, k < n → f k ≤ b) : sumN n f ≤ n * b := by
  induction n with
  | zero => exact Nat.zero_le _
  | succ n ih =>
    have h1 := ih (fun k hk => h k (by omega))
    have h2 := h n (by omega)
    rw [sumN_s, Nat.succ_mul]; omega
theorem b2_b (b : Bool) : b2 b ≤ 1 := by cases b <;> decide
theorem people_b {z : ZZ} (hw : WF z) {r : Nat} (hr : r < nR z) (s : Nat) : people z r s ≤ 120 := by
  have hR := wf_R10 hw
  have h1 : people z r s ≤ r * 12 := sumN_b fun a ha => by
    have h2 := wf_S12 hw (show a < nR z by omega)
    have h3 : pplA z a r s ≤ nS z a * 1 := sumN_b fun w _ => b2_b _
    omega
  omega
theorem cols_b {z : ZZ} (hw : WF z) (r s : Nat) (wo : Int32) : colsW z r s wo ≤ 4 := by
  have h1 : colsW z r s wo ≤ nC z * 1 := sumN_b fun k _ => b2_b _
  have h2 := wf_C4 hw
  omega
theorem ways_b {z : ZZ} (hw : WF z) {r : Nat} (hr : r < nR z) (s : Nat) : ways z r s ≤ 124 := by
  have h1 := people_b hw hr s
  have h2 := cols_b hw r s (-1)
  unfold ways; omega
theorem absI_m (x : Int32) : (if 0 ≤ x then x else 0 - x) = absI x := by
  unfold absI
  by_cases h : x < 0
  · rw [if_pos h, if_neg (Int32.not_le.mpr h), Int32.zero_sub]
  · rw [if_neg h, if_pos (Int32.not_lt.mp h)]
def WS (z : ZZ) : Prop := ∀ a r, a < r → r < nR z → z (5 + 4 * a) < z (5 + 4 * r)
def colsN (z : ZZ) (r s : Nat) : Nat := sumN (nC z) fun k => b2 (cblk z k r s)
end
section
/-- what the reference writes -/
theorem mw_c {a : Nat → Nat} {cI : ClassId} {z z' : ZZ} {st st' : Int32} {zh zh' : ZZ} {le le' : Int32} {tx tx' : ZZ} {th th' : Int32} {pa pa' : ZZ} {rd rd' nu nu' pt pt' : Int32} {wy wy' : ZZ} {za za' : Int64} (h1 : z = z') (h2 : st = st') (h3 : zh = zh') (h4 : le = le') (h5 : tx = tx') (h6 : th = th') (h7 : pa = pa') (h8 : rd = rd') (h9 : nu = nu') (h10 : pt = pt') (h11 : wy = wy') (h12 : za = za') : MW a cI z st zh le tx th pa rd nu pt wy za = MW a cI z' st' zh' le' tx' th' pa' rd' nu' pt' wy' za' := by
  subst h1 h2 h3 h4 h5 h6 h7 h8 h9 h10 h11 h12; rfl
theorem hr_c {b : Nat → Nat} {cI : ClassId} {ro ro' : Int32} {di di' hg hg' se se' ta ta' : ZZ} {co co' : Int32} {cd cd' cs cs' ch ch' sg sg' : ZZ} (h1 : ro = ro') (h2 : di = di') (h3 : hg = hg') (h4 : se = se') (h5 : ta = ta') (h6 : co = co') (h7 : cd = cd') (h8 : cs = cs') (h9 : ch = ch') (h10 : sg = sg') : HR b cI ro di hg se ta co cd cs ch sg = HR b cI ro' di' hg' se' ta' co' cd' cs' ch' sg' := by
  subst h1 h2 h3 h4 h5 h6 h7 h8 h9 h10; rfl
def mixL (h v : Int64) : Int64 := (31 * h) + v
def layS (z : ZZ) (r s : Nat) (wy : ZZ) : ZZ := upd wy (12 * r + s) (nI (ways z r s))
def layR (z : ZZ) (r : Nat) (wy : ZZ) : ZZ := itN (nS z r) (layS z r) wy
def layF (z wy : ZZ) : ZZ := itN (nR z) (layR z) wy
def shH (zh : ZZ) (k : Nat) : ZZ := fun j => if j + 57 < k then zh (j + 57) else zh j
def cpH (z zh : ZZ) (b k : Nat) : ZZ := fun j => if 57 * b ≤ j ∧ j < 57 * b + k then z (j - 57 * b) else zh j
def saveH (z zh : ZZ) (n : Nat) : ZZ := if n = 6 then cpH z (shH zh 342) (n - 1) 57 else cpH z zh n 57
def saveN (n : Nat) : Nat := if n = 6 then 6 else n + 1
def shZ (z : ZZ) (k R w : Nat) : ZZ := fun j => if (5 + 4 * (k + 1) ≤ j ∧ j < 5 + 4 * (R + 1)) ∨ (5 + 4 * k ≤ j ∧ j < 5 + 4 * k + w) then z (j - 4) else z j
/-- where a row of this distance goes: behind those that are not farther -/
def insAt (z : ZZ) (d : Int32) : Nat → Nat
  | 0 => 0
  | k + 1 => if z (5 + 4 * k) ≤ d then k + 1 else insAt z d k
def insZ (z : ZZ) (d h s : Int32) : ZZ := let k := insAt z d (nR z); upd (upd (upd (upd (upd (shZ z k (nR z) 0) 3 (nI (nR z + 1))) (5 + 4 * k) d) (5 + 4 * k + 1) h) (5 + 4 * k + 2) s) (5 + 4 * k + 3) (nI 0)
def liftThen (z : ZZ) (r : Nat) (h : Int32) : Nat := seeing (upd z (5 + 4 * r + 1) h) true
def takThen (z : ZZ) (r s : Nat) : Nat := if tk z r s = true then 0 else blkd z r s true
def colNow (z : ZZ) (k w : Nat) : Int32 := if w < 3 then z (45 + 3 * k + w) else nI (cBeh z k)
def bsS (z wy : ZZ) (pl : Int32) (r w : Nat) (x : Int32) : Int32 := if (!tk z r w && decide (nI (sAh z wy r w true) = pl)) = true then nI (100 * r + w) else x
def bsR (z wy : ZZ) (pl : Int32) (r : Nat) (x : Int32) : Int32 := itN (nS z r) (bsS z wy pl r) x
def bestI (z wy : ZZ) (pl : Int32) : Int32 := itN (nR z) (bsR z wy pl) (-1)
def countI (z : ZZ) (ns wh : Nat) : Int32 := match wh with
  | 0 => nI (nR z)
  | 1 => nI (nC z)
  | 2 => nI (seatsAll z)
  | 3 => nI (takenAll z)
  | 4 => nI (seeing z false)
  | 5 => nI (seeing z true)
  | 6 => nI (pairsN z)
  | 7 => lgI z
  | _ => nI ns
def seatWy (z wy : ZZ) (wh : Nat) : ZZ := if wh = 6 then layF z wy else wy
def seatI (z wy : ZZ) (r s wh : Nat) : Int32 := match wh with
  | 0 => side z r s
  | 1 => nI (b2 (tk z r s))
  | 2 => nI (people z r s)
  | 3 => nI (colsW z r s (-1))
  | 4 => nI (b2 (seesB z r s))
  | 5 => nI (blkd z r s false)
  | _ => nI (sAh z (layF z wy) r s false)
theorem upd_back (z : ZZ) (i : Nat) (v : Int32) : upd (upd z i v) i (z i) = z := by
  funext j; unfold upd; by_cases h : j = i <;> simp [h]
theorem upd_ne {z : ZZ} {i j : Nat} {v : Int32} (h : j ≠ i) : upd z i v j = z j := by unfold upd; rw [if_neg h]
theorem upd_eq {z : ZZ} {i : Nat} {v : Int32} : upd z i v i = v := by unfold upd; rw [if_pos rfl]
theorem wf_h {z : ZZ} (hw : WF z) (r : Nat) (v : Int32) : WF (upd z (5 + 4 * r + 1) v) := by
  have e3 : upd z (5 + 4 * r + 1) v 3 = z 3 := upd_ne (by omega)
  by_cases h4 : 5 + 4 * r + 1 = 4
  · omega
  have e4 : upd z (5 + 4 * r + 1) v 4 = z 4 := upd_ne (by omega)
  have eR : nR (upd z (5 + 4 * r + 1) v) = nR z := by unfold nR; rw [e3]
  have eC : nC (upd z (5 + 4 * r + 1) v) = nC z := by unfold nC; rw [e4]
  have eS : ∀ q, upd z (5 + 4 * r + 1) v (5 + 4 * q + 2) = z (5 + 4 * q + 2) := fun q => upd_ne (by omega)
  have eN : ∀ q, nS (upd z (5 + 4 * r + 1) v) q = nS z q := fun q => by unfold nS; rw [eS]
  refine ⟨?_, ?_, ?_, ?_, ?_⟩
  · rw [e3, eR]; exact hw.1
  · rw [eR]; exact hw.2.1
  · rw [e4, eC]; exact hw.2.2.1
  · rw [eC]; exact hw.2.2.2.1
  · intro q hq; rw [eR] at hq; rw [eS, eN]; exact hw.2.2.2.2 q hq
theorem insAt_0 {z : ZZ} {d : Int32} {k : Nat} (h : k = 0) : insAt z d k = k := by subst h; rfl
theorem insAt_le {z : ZZ} {d : Int32} {k : Nat} (h : 0 < k) (h2 : z (5 + 4 * (k - 1)) ≤ d) : insAt z d k = k := by
  obtain ⟨q, rfl⟩ : ∃ q, k = q + 1 := ⟨k - 1, by omega⟩
  rw [Nat.add_sub_cancel] at h2
  show (if z (5 + 4 * q) ≤ d then q + 1 else insAt z d q) = q + 1
  rw [if_pos h2]
theorem insAt_gt {z : ZZ} {d : Int32} {k : Nat} (h : 0 < k) (h2 : ¬ z (5 + 4 * (k - 1)) ≤ d) : insAt z d k = insAt z d (k - 1) := by
  obtain ⟨q, rfl⟩ : ∃ q, k = q + 1 := ⟨k - 1, by omega⟩
  rw [Nat.add_sub_cancel] at h2 ⊢
  show (if z (5 + 4 * q) ≤ d then q + 1 else insAt z d q) = insAt z d q
  rw [if_neg h2]
def mrA (z : ZZ) (r : Nat) (za : Int64) : Int64 := itN 6 (fun w h => mixL h (rowNowI z r w).toInt64) za
def mrB (z : ZZ) (r : Nat) (za : Int64) : Int64 := mixL (mixL (mrA z r za) (leastForI z r).toInt64) (nI (liftThen z r (nI 50))).toInt64
def mrW (z wy : ZZ) (r s : Nat) (za : Int64) : Int64 := itN 7 (fun w h => mixL h (seatI z wy r s w).toInt64) za
def mrS (z wy : ZZ) (r s : Nat) (za : Int64) : Int64 := mixL (mixL (mrW z wy r s za) (blockerI z r s).toInt64) (nI (takThen z r s)).toInt64
def wyRow (z : ZZ) (n : Nat) (wy : ZZ) : ZZ := itN n (fun _ w => layF z w) wy
def mixRowL (z wy : ZZ) (r : Nat) (za : Int64) : Int64 := itN (nS z r) (fun s h => mrS z (wyRow z s wy) r s h) (mrB z r za)
theorem takenAll_b {z : ZZ} (hw : WF z) : takenAll z ≤ 120 := by
  have hR := wf_R10 hw
  have h : takenAll z ≤ nR z * 12 := sumN_b fun r hr => by
    have h2 := wf_S12 hw hr
    have h3 : takenIn z r ≤ nS z r * 1 := sumN_b fun w _ => b2_b _
    omega
  omega
theorem seeing_b {z : ZZ} (hw : WF z) (t : Bool) : seeing z t ≤ 120 := by
  have hR := wf_R10 hw
  have h : seeing z t ≤ nR z * 12 := sumN_b fun r hr => by
    have h2 := wf_S12 hw hr
    have h3 : seeIn z r t ≤ nS z r * 1 := sumN_b fun w _ => b2_b _
    omega
  omega
def shareD (z : ZZ) : UInt64 := if takenAll z = 0 then FP.dconst1 else FP.ddiv (FP.i2d (nI (seeing z true))) (FP.i2d (nI (takenAll z)))
def isNaNB (x : UInt64) : Bool := !decide (Op.cmpValue (FP.dcmp x x) CmpOp.l = 0)
def d2lb (x : UInt64) : Int64 := if isNaNB x = true then 9221120237041090560 else x.toInt64
theorem share_nn : ∀ a, a < 121 → ∀ b, b < 121 → 0 < b → vf_n64 (FP.ddiv (FP.i2d (nI a)) (FP.i2d (nI b))) := by unfold vf_n64; decide +kernel
section KY
variable {p : Program} {l : Launch} {e : Env} {R : Room} {s : State} {m : MethodId} {args : Array Value} {below : List Frame} {meth : Method} {c : Code} {H : Heap} {locs : List Loc} {cells slots : Nat} {Q : State → Prop}
variable {cc : ByteArray} {pc : Nat} {ls : Array Slot} {rest : List Value}
theorem kx_idiv (hexec : p.tables.exec = Jvm.exec) (hb : c.code = cc) {x y : Nat} (hx : x < 2 ^ 31) (hy0 : 0 < y) (hy : y < 2 ^ 31) (hdg : decode cc pc = .ok (.idiv, 1)) (k : W p l e R s m args below meth c H locs cells slots Q (F0 m (pc + 1) ls (.int (nI (x / y)) :: rest))) : W p l e R s m args below meth c H locs cells slots Q (F0 m pc ls (.int (nI y) :: .int (nI x) :: rest)) :=
  lv_idiv hexec hb hdg (nI_ne0 hy0 hy) (by rw [pk_div hx hy0 hy]; exact k)
theorem kx_irem (hexec : p.tables.exec = Jvm.exec) (hb : c.code = cc) {x y : Nat} (hx : x < 2 ^ 31) (hy0 : 0 < y) (hy : y < 2 ^ 31) (hdg : decode cc pc = .ok (.irem, 1)) (k : W p l e R s m args below meth c H locs cells slots Q (F0 m (pc + 1) ls (.int (nI (x % y)) :: rest))) : W p l e R s m args below meth c H locs cells slots Q (F0 m pc ls (.int (nI y) :: .int (nI x) :: rest)) :=
  lv_irem hexec hb hdg (nI_ne0 hy0 hy) (by rw [pk_rem hx hy0 hy]; exact k)
end KY
end
section
/-- the reference's public calls: what is thrown, what is answered, what is written -/
theorem nR_upd {z : ZZ} {i : Nat} {v : Int32} (h : i ≠ 3) : nR (upd z i v) = nR z := by unfold nR; rw [upd_ne (Ne.symm h)]
theorem nC_upd {z : ZZ} {i : Nat} {v : Int32} (h : i ≠ 4) : nC (upd z i v) = nC z := by unfold nC; rw [upd_ne (Ne.symm h)]
theorem wf_upd {z : ZZ} (hw : WF z) {i : Nat} {v : Int32} (h3 : i ≠ 3) (h4 : i ≠ 4) (h : ∀ r, r < nR z → i ≠ 5 + 4 * r + 2) : WF (upd z i v) := by
  have eS : ∀ q, q < nR z → upd z i v (5 + 4 * q + 2) = z (5 + 4 * q + 2) := fun q hq => upd_ne (Ne.symm (h q hq))
  have eN : ∀ q, q < nR z → nS (upd z i v) q = nS z q := fun q hq => by unfold nS; rw [eS q hq]
  refine ⟨?_, ?_, ?_, ?_, ?_⟩
  · rw [upd_ne (Ne.symm h3), nR_upd h3]; exact hw.1
  · rw [nR_upd h3]; exact hw.2.1
  · rw [upd_ne (Ne.symm h4), nC_upd h4]; exact hw.2.2.1
  · rw [nC_upd h4]; exact hw.2.2.2.1
  · intro q hq; rw [nR_upd h3] at hq; rw [eS q hq, eN q hq]; exact hw.2.2.2.2 q hq
def tAddRow (z : ZZ) (d h s : Int32) : Nat := if ((wthn d (nI 1) (nI 999) && wthn h (nI 0) (nI 999)) && wthn s (nI 1) (nI 12)) = true then (if canAdd z d = true then 0 else 2) else 1
def delS (z : ZZ) (r k : Nat) : ZZ := fun j => if j = 3 then nI (nR z - 1) else if 5 + 4 * r ≤ j ∧ j < k then z (j + 4) else z j
def delZ (z : ZZ) (r : Nat) : ZZ := delS z r (5 + 4 * (nR z - 1))
def tRow (z : ZZ) (r : Int32) : Nat := if isRowB z r = true then 0 else 1
def tLift (z : ZZ) (r h : Int32) : Nat := if isRowB z r = true then (if wthn h (nI 0) (nI 999) = true then 0 else 2) else 1
def liftZ (z : ZZ) (r : Nat) (h : Int32) : ZZ := upd z (5 + 4 * r + 1) h
def tAddCol (z : ZZ) (d s h : Int32) : Nat := if ((wthn d (nI 1) (nI 999) && wthn s (-12) (nI 12)) && wthn h (nI 0) (nI 5)) = true then (if nC z = 4 then 2 else 0) else 1
def addC (z : ZZ) (d s h : Int32) : ZZ := upd (upd (upd (upd z (45 + 3 * nC z) d) (45 + 3 * nC z + 1) s) (45 + 3 * nC z + 2) h) 4 (nI (nC z + 1))
def dlcS (z : ZZ) (c k : Nat) : ZZ := fun j => if j = 4 then nI (nC z - 1) else if 45 + 3 * c ≤ j ∧ j < k then z (j + 3) else z j
def dlcZ (z : ZZ) (c : Nat) : ZZ := dlcS z c (45 + 3 * (nC z - 1))
def tCol (z : ZZ) (c : Int32) : Nat := if isColB z c = true then 0 else 1
def isValB (s v : Int32) : Bool := if s = 0 then wthn v (nI 0) (nI 999) else if s = nI 1 then wthn v (nI 1) (nI 300) else wthn v (nI 0) (nI 100)
def tSet (s v : Int32) : Nat := if wthn s (nI 0) (nI 2) = true then (if isValB s v = true then 0 else 2) else 1
def cl (x : Int32) : Nat := x.toNatClampNeg
theorem cl_nI {n : Nat} (h : n < 2 ^ 31) : cl (nI n) = n := nI_clamp h
def tTake (z : ZZ) (r s : Int32) : Nat := if isSeatB z r s = true then (if tk z (cl r) (cl s) = true then 2 else 0) else 1
def tLeave (z : ZZ) (r s : Int32) : Nat := if isSeatB z r s = true then (if tk z (cl r) (cl s) = true then 0 else 2) else 1
def takeZ (z : ZZ) (r s : Nat) : ZZ := upd z (5 + 4 * r + 3) (z (5 + 4 * r + 3) ||| (nI 1 <<< (nI s &&& 31)))
def leaveZ (z : ZZ) (r s : Nat) : ZZ := upd z (5 + 4 * r + 3) (z (5 + 4 * r + 3) &&& ((nI 1 <<< (nI s &&& 31)) ^^^ (-1)))
def tParty (z : ZZ) (m : Int32) : Nat := if wthn m (nI 1) (nI 12) = true then (if placeForI z (cl m) = -1 then 2 else 0) else 1
def partyZ (z : ZZ) (r f m : Nat) : ZZ := itN m (fun k z => takeZ z r (f + k)) z
def clrS (z : ZZ) (k : Nat) : ZZ := fun j => if 5 ≤ j ∧ j < 5 + 4 * k ∧ (j - 5) % 4 = 3 then nI 0 else z j
def clrZ (z : ZZ) : ZZ := clrS z (nR z)
def laS (r : Nat) (p : ZZ × Nat) : ZZ × Nat := if leastForI p.1 r ≤ p.1 (5 + 4 * r + 1) then p else if nI 999 < leastForI p.1 r then p else (upd p.1 (5 + 4 * r + 1) (leastForI p.1 r), p.2 + 1)
def laN (z : ZZ) (k : Nat) : ZZ × Nat := itN k (fun j p => laS (1 + j) p) (z, 0)
def tApp (c : Int32) (nl : Nat) : Nat := if wthn c (nI 33) (nI 126) = true then (if nl = 60 then 2 else 0) else 1
def undS (z zh : ZZ) (b k : Nat) : ZZ := fun j => if j < k then zh (57 * b + j) else z j
def tRowW (z : ZZ) (r w : Int32) : Nat := if isRowB z r = true then (if wthn w (nI 0) (nI 5) = true then 0 else 2) else 1
def tSeatW (z : ZZ) (r s w : Int32) : Nat := if isSeatB z r s = true then (if wthn w (nI 0) (nI 6) = true then 0 else 2) else 1
def tColW (z : ZZ) (c w : Int32) : Nat := if isColB z c = true then (if wthn w (nI 0) (nI 3) = true then 0 else 2) else 1
def tSeat (z : ZZ) (r s : Int32) : Nat := if isSeatB z r s = true then 0 else 1
theorem isCol_out {z : ZZ} (hw : WF z) {co : Int32} (h : isColB z co = true) : ∃ k, k < nC z ∧ co = nI k := wthn_out (by have := wf_C4 hw; omega) h
theorem isSeat_out {z : ZZ} (hw : WF z) {r s : Int32} (h : isSeatB z r s = true) : ∃ r0 s0, r0 < nR z ∧ s0 < nS z r0 ∧ r = nI r0 ∧ s = nI s0 := by
  unfold isSeatB at h
  rw [Bool.and_eq_true] at h
  obtain ⟨r0, h0, rfl⟩ := isRow_out hw h.1
  have h2 := h.2
  rw [nI_clamp (show r0 < 2 ^ 31 by have := wf_R10 hw; omega)] at h2
  obtain ⟨s0, h3, rfl⟩ := wthn_out (by have := wf_S12 hw h0; omega) h2
  exact ⟨r0, s0, h0, h3, rfl, rfl⟩
theorem wthn3_out {v : Int32} (h : wthn v (nI 0) (nI 2) = true) : ∃ j, j < 3 ∧ v = nI j := wthn_out (n := 3) (by omega) (by rw [show nI 3 - nI 1 = nI 2 from by decide]; exact h)
theorem wthn6_out {v : Int32} (h : wthn v (nI 0) (nI 5) = true) : ∃ j, j < 6 ∧ v = nI j := wthn_out (n := 6) (by omega) (by rw [show nI 6 - nI 1 = nI 5 from by decide]; exact h)
theorem wthn7_out {v : Int32} (h : wthn v (nI 0) (nI 6) = true) : ∃ j, j < 7 ∧ v = nI j := wthn_out (n := 7) (by omega) (by rw [show nI 7 - nI 1 = nI 6 from by decide]; exact h)
theorem wthn4_out {v : Int32} (h : wthn v (nI 0) (nI 3) = true) : ∃ j, j < 4 ∧ v = nI j := wthn_out (n := 4) (by omega) (by rw [show nI 4 - nI 1 = nI 3 from by decide]; exact h)
theorem wthn9_out {v : Int32} (h : wthn v (nI 0) (nI 8) = true) : ∃ j, j < 9 ∧ v = nI j := wthn_out (n := 9) (by omega) (by rw [show nI 9 - nI 1 = nI 8 from by decide]; exact h)
theorem wthn13_out {v : Int32} (h : wthn v (nI 1) (nI 12) = true) : ∃ j, 1 ≤ j ∧ j ≤ 12 ∧ v = nI j := by
  unfold wthn at h
  rw [Bool.and_eq_true, Bool.not_eq_true', Bool.not_eq_true', decide_eq_false_iff_not, decide_eq_false_iff_not] at h
  obtain ⟨h1, h2⟩ := h
  have h0 : ¬ v < 0 := by
    intro q
    have h3 := Int32.lt_iff_toInt_lt.mp q
    have h4 : (nI 1).toInt = 1 := by decide
    have h5 : (0 : Int32).toInt = 0 := by decide
    exact h1 (Int32.lt_iff_toInt_lt.mpr (by omega))
  obtain ⟨j, hj, rfl⟩ := nI_of h0
  refine ⟨j, ?_, ?_, rfl⟩
  · rcases Nat.lt_or_ge j 1 with q | q
    · exact absurd (nI_lt q (by decide)) h1
    · exact q
  · rcases Nat.lt_or_ge 12 j with q | q
    · exact absurd (nI_lt q hj) h2
    · exact q
theorem wf_del {z : ZZ} (hw : WF z) {r : Nat} (hr : r < nR z) : WF (delZ z r) := by
  have hR := wf_R10 hw
  have e3 : delZ z r 3 = nI (nR z - 1) := by unfold delZ delS; rw [if_pos rfl]
  have e4 : delZ z r 4 = z 4 := by unfold delZ delS; rw [if_neg (by omega), if_neg (by omega)]
  have eR : nR (delZ z r) = nR z - 1 := by
    show (delZ z r 3).toNatClampNeg = nR z - 1
    rw [e3, nI_clamp (by omega)]
  have eC : nC (delZ z r) = nC z := by unfold nC; rw [e4]
  have eS : ∀ q, q < nR z - 1 → ∃ q2, q2 < nR z ∧ delZ z r (5 + 4 * q + 2) = z (5 + 4 * q2 + 2) := by
    intro q hq
    unfold delZ delS
    rw [if_neg (by omega)]
    by_cases g : 5 + 4 * r ≤ 5 + 4 * q + 2
    · rw [if_pos (by omega)]; exact ⟨q + 1, by omega, by rw [show 5 + 4 * q + 2 + 4 = 5 + 4 * (q + 1) + 2 by omega]⟩
    · rw [if_neg (by omega)]; exact ⟨q, by omega, rfl⟩
  refine ⟨?_, ?_, ?_, ?_, ?_⟩
  · rw [e3, eR]
  · omega
  · rw [e4, eC]; exact hw.2.2.1
  · rw [eC]; exact hw.2.2.2.1
  · intro q hq
    rw [eR] at hq
    obtain ⟨q2, h2, e⟩ := eS q hq
    have h3 := hw.2.2.2.2 q2 h2
    have eN : nS (delZ z r) q = nS z q2 := by unfold nS; rw [e]
    rw [e, eN]; exact h3
theorem pf_inv {z : ZZ} (m : Nat) {n k : Nat} {r : Nat} {x : Int32 × Int32} (hr : r < nR z) (hk : k ≤ nS z r + 1 - m) (hx : x.1 = -1 ∨ ∃ r0 f0, r0 < nR z ∧ f0 + m ≤ nS z r0 ∧ x.1 = nI (100 * r0 + f0)) (hm : 1 ≤ m) : (itN k (pfS z m r) x).1 = -1 ∨ ∃ r0 f0, r0 < nR z ∧ f0 + m ≤ nS z r0 ∧ (itN k (pfS z m r) x).1 = nI (100 * r0 + f0) := by
  induction k with
  | zero => exact hx
  | succ k ih =>
    have h := ih (by omega)
    rw [itN_s]
    unfold pfS
    split
    · exact h
    · split
      · exact Or.inr ⟨r, k, hr, by omega, rfl⟩
      · split
        · exact h
        · exact Or.inr ⟨r, k, hr, by omega, rfl⟩
theorem placeFor_out {z : ZZ} {m : Nat} (hm : 1 ≤ m) (h : ¬ placeForI z m = -1) : ∃ r0 f0, r0 < nR z ∧ f0 + m ≤ nS z r0 ∧ placeForI z m = nI (100 * r0 + f0) := by
  have K : ∀ k, k ≤ nR z → ((itN k (pfR z m) (-1, nI 0)).1 = -1 ∨ ∃ r0 f0, r0 < nR z ∧ f0 + m ≤ nS z r0 ∧ (itN k (pfR z m) (-1, nI 0)).1 = nI (100 * r0 + f0)) := by
    intro k
    induction k with
    | zero => intro _; exact Or.inl rfl
    | succ k ih => intro hk; rw [itN_s]; exact pf_inv (n := 0) m (by omega) (Nat.le_refl _) (ih (by omega)) hm
  rcases K (nR z) (Nat.le_refl _) with q | q
  · exact absurd q h
  · exact q
theorem laN_s (z : ZZ) (k : Nat) : laN z (k + 1) = laS (1 + k) (laN z k) := rfl
theorem laS_wf {p : ZZ × Nat} {r : Nat} (hw : WF p.1) (hd : WD p.1) (hr : r < nR p.1) : WF (laS r p).1 ∧ WD (laS r p).1 ∧ nR (laS r p).1 = nR p.1 ∧ (laS r p).2 ≤ p.2 + 1 := by
  unfold laS
  split
  · exact ⟨hw, hd, rfl, by omega⟩
  · split
    · exact ⟨hw, hd, rfl, by omega⟩
    · refine ⟨wf_upd hw (by omega) (by omega) (fun q _ => by omega), fun q hq => ?_, nR_upd (by omega), Nat.le_refl _⟩
      show ¬ upd p.1 _ _ _ = 0
      rw [upd_ne (by omega)]
      exact hd q (by rw [show nR (upd p.1 (5 + 4 * r + 1) (leastForI p.1 r)) = nR p.1 from nR_upd (by omega)] at hq; exact hq)
theorem laN_wf {z : ZZ} (hw : WF z) (hd : WD z) (k : Nat) (hk : k ≤ nR z - 1) : WF (laN z k).1 ∧ WD (laN z k).1 ∧ nR (laN z k).1 = nR z ∧ (laN z k).2 ≤ k := by
  induction k with
  | zero => exact ⟨hw, hd, rfl, Nat.le_refl _⟩
  | succ k ih =>
    obtain ⟨h1, h2, h3, h4⟩ := ih (by omega)
    obtain ⟨g1, g2, g3, g4⟩ := laS_wf (r := 1 + k) h1 h2 (by omega)
    rw [laN_s]
    exact ⟨g1, g2, g3.trans h3, by omega⟩
theorem canAdd_lt {z : ZZ} {d : Int32} (h : canAdd z d = true) : nR z < 10 := by
  unfold canAdd at h
  rw [Bool.and_eq_true, decide_eq_true_eq] at h
  exact h.1
theorem nI_ne_m1 {n : Nat} (h : n < 2 ^ 31) : ¬ nI n = -1 := by
  intro q
  have h1 := nI_toInt h
  rw [q] at h1
  have h2 : (-1 : Int32).toInt = -1 := by decide
  omega
end
section
/-- rows as a text, as the reference reads them: rows read, part, number (-1: none), the numbers read -/
abbrev PS : Type := Nat × Nat × Int32 × ZZ
def tdV (nu d : Int32) : Int32 := if nu = -1 then d else (nI 10 * nu) + d
def tdR (pt : Nat) (v : Int32) : Bool := if pt = 0 then wthn v (nI 1) (nI 999) else if pt = 1 then wthn v (nI 0) (nI 999) else wthn v (nI 1) (nI 12)
def tdB (nu : Int32) (pt : Nat) (d : Int32) : Bool := (wthn d (nI 0) (nI 9) && !decide (nu = 0)) && tdR pt (tdV nu d)
def tdNu (nu : Int32) (pt : Nat) (d : Int32) : Int32 := if tdB nu pt d = true then tdV nu d else nu
def sgn (pt : Nat) : Int32 := if pt = 0 then nI 94 else if pt = 1 then nI 42 else nI 59
def isSg (p : PS) (c : Int32) : Bool := !decide (p.2.2.1 = -1) && decide (c = sgn p.2.1)
def stepP (p : PS) (c : Int32) : PS := if isSg p c = true then ((if p.2.1 = 2 then p.1 + 1 else p.1), (if p.2.1 = 2 then 0 else p.2.1 + 1), -1, p.2.2.2) else (p.1, p.2.1, tdNu p.2.2.1 p.2.1 (c - nI 48), upd p.2.2.2 (3 * p.1 + p.2.1) (tdNu p.2.2.1 p.2.1 (c - nI 48)))
def okP (p : PS) (c : Int32) : Bool := isSg p c || tdB p.2.2.1 p.2.1 (c - nI 48)
def runP (tx pa : ZZ) (k : Nat) : PS := itN k (fun j p => stepP p (tx j)) (0, 0, -1, pa)
theorem runP_s (tx pa : ZZ) (k : Nat) : runP tx pa (k + 1) = stepP (runP tx pa k) (tx k) := rfl
def eN (tx pa : ZZ) : Nat → Nat
  | 0 => 0
  | k + 1 => if eN tx pa k = k ∧ okP (runP tx pa k) (tx k) = true then k + 1 else eN tx pa k
theorem eN_s (tx pa : ZZ) (k : Nat) : eN tx pa (k + 1) = if eN tx pa k = k ∧ okP (runP tx pa k) (tx k) = true then k + 1 else eN tx pa k := rfl
theorem eN_le (tx pa : ZZ) (k : Nat) : eN tx pa k ≤ k := by
  induction k with
  | zero => exact Nat.le_refl _
  | succ k ih => rw [eN_s]; split <;> omega
theorem eN_stop {tx pa : ZZ} {k n : Nat} (h : eN tx pa k = k) (hk : k < n) (hb : okP (runP tx pa k) (tx k) = false) : eN tx pa n = k := by
  induction n with
  | zero => omega
  | succ n ih =>
    rw [eN_s]
    rcases Nat.lt_or_ge k n with q | q
    · rw [ih q, if_neg (by omega)]
    · obtain rfl : k = n := by omega
      rw [if_neg (by rw [hb]; simp), h]
def finP (tx pa : ZZ) (n : Nat) : PS := if eN tx pa n = n then runP tx pa n else stepP (runP tx pa (eN tx pa n)) (tx (eN tx pa n))
theorem finP_a {tx pa : ZZ} {n : Nat} (h : eN tx pa n = n) : finP tx pa n = runP tx pa n := by unfold finP; rw [if_pos h]
theorem finP_b {tx pa : ZZ} {k n : Nat} (h : eN tx pa k = k) (hk : k < n) (hb : okP (runP tx pa k) (tx k) = false) : finP tx pa n = stepP (runP tx pa k) (tx k) := by
  have h1 := eN_stop h hk hb
  unfold finP; rw [if_neg (by omega), h1]
/-- what holds of the numbers read so far -/
def okN (pt : Nat) (v : Int32) : Prop := tdR pt v = true
def VP (p : PS) (k : Nat) : Prop := p.2.1 < 3 ∧ 6 * p.1 + 2 * p.2.1 + (if p.2.2.1 = -1 then 0 else 1) ≤ k ∧ (∀ i q, q < 3 → 3 * i + q < 3 * p.1 + p.2.1 → okN q (p.2.2.2 (3 * i + q))) ∧ (¬ p.2.2.1 = -1 → okN p.2.1 p.2.2.1 ∧ p.2.2.2 (3 * p.1 + p.2.1) = p.2.2.1)
theorem td_notm1 {pt : Nat} {v : Int32} (h : tdR pt v = true) : ¬ v = -1 := by
  intro q; subst q
  unfold tdR at h
  by_cases h0 : pt = 0
  · rw [if_pos h0] at h; exact absurd h (by decide)
  · rw [if_neg h0] at h
    by_cases h1 : pt = 1
    · rw [if_pos h1] at h; exact absurd h (by decide)
    · rw [if_neg h1] at h; exact absurd h (by decide)
theorem VP_step {p : PS} {k : Nat} {c : Int32} (h : VP p k) (hb : okP p c = true) : VP (stepP p c) (k + 1) := by
  obtain ⟨h1, h2, h3, h4⟩ := h
  obtain ⟨rd, pt, nu, pa⟩ := p
  simp only at h1 h2 h3 h4
  unfold okP at hb
  unfold stepP
  by_cases hs : isSg (rd, pt, nu, pa) c = true
  · rw [if_pos hs]
    have hnu : ¬ nu = -1 := by
      unfold isSg at hs
      rw [Bool.and_eq_true, Bool.not_eq_true', decide_eq_false_iff_not] at hs
      exact hs.1
    obtain ⟨g1, g2⟩ := h4 hnu
    rw [if_neg hnu] at h2
    have h3' : ∀ i q, q < 3 → 3 * i + q < 3 * rd + pt + 1 → okN q (pa (3 * i + q)) := by
      intro i q hq hi
      rcases Nat.lt_or_ge (3 * i + q) (3 * rd + pt) with a | a
      · exact h3 i q hq a
      · obtain rfl : i = rd := by omega
        obtain rfl : q = pt := by omega
        rw [g2]; exact g1
    by_cases e2 : pt = 2
    · simp only [e2, if_true]
      subst e2
      refine ⟨show 0 < 3 by omega, ?_, fun i q hq hi => h3' i q hq (show 3 * i + q < 3 * rd + 2 + 1 from hi), fun q => absurd rfl q⟩
      show 6 * (rd + 1) + 2 * 0 + (if (-1 : Int32) = -1 then 0 else 1) ≤ k + 1
      rw [if_pos rfl]; omega
    · simp only [e2, if_false]
      refine ⟨show pt + 1 < 3 by omega, ?_, fun i q hq hi => h3' i q hq (show 3 * i + q < 3 * rd + (pt + 1) from hi), fun q => absurd rfl q⟩
      show 6 * rd + 2 * (pt + 1) + (if (-1 : Int32) = -1 then 0 else 1) ≤ k + 1
      rw [if_pos rfl]; omega
  · have hs' : isSg (rd, pt, nu, pa) c = false := by simpa using hs
    rw [if_neg hs]
    rw [hs', Bool.false_or] at hb
    have hB : tdB nu pt (c - nI 48) = true := hb
    have eNu : tdNu nu pt (c - nI 48) = tdV nu (c - nI 48) := by unfold tdNu; rw [if_pos hB]
    have hR : tdR pt (tdV nu (c - nI 48)) = true := by
      unfold tdB at hB
      rw [Bool.and_eq_true] at hB
      exact hB.2
    simp only [eNu]
    refine ⟨h1, ?_, fun i q hq hi => ?_, fun _ => ⟨hR, upd_eq⟩⟩
    · show 6 * rd + 2 * pt + _ ≤ k + 1
      split <;> (split at h2 <;> omega)
    · show okN q (upd pa _ _ (3 * i + q))
      have hi' : 3 * i + q < 3 * rd + pt := hi
      rw [upd_ne (by omega)]
      exact h3 i q hq hi'
theorem runP_v {tx pa : ZZ} {k : Nat} (h : eN tx pa k = k) : VP (runP tx pa k) k := by
  induction k with
  | zero =>
    refine ⟨show 0 < 3 by omega, ?_, fun i q hq hi => absurd hi (show ¬ 3 * i + q < 3 * 0 + 0 by omega), fun q => absurd rfl q⟩
    show 6 * 0 + 2 * 0 + (if (-1 : Int32) = -1 then 0 else 1) ≤ 0
    rw [if_pos rfl]; omega
  | succ k ih =>
    rw [eN_s] at h
    have h1 := eN_le tx pa k
    split at h
    · rename_i g
      rw [runP_s]
      exact VP_step (ih g.1) g.2
    · omega
theorem runP_pt {tx pa : ZZ} {k : Nat} (h : eN tx pa k = k) : (runP tx pa k).2.1 < 3 := (runP_v h).1
theorem runP_rd {tx pa : ZZ} {k : Nat} (h : eN tx pa k = k) : 6 * (runP tx pa k).1 + 2 * (runP tx pa k).2.1 ≤ k := by
  have h2 := (runP_v h).2.1
  split at h2 <;> omega
theorem eN_in (tx pa : ZZ) (n : Nat) : eN tx pa (eN tx pa n) = eN tx pa n := by
  induction n with
  | zero => rfl
  | succ n ih =>
    by_cases g : eN tx pa n = n ∧ okP (runP tx pa n) (tx n) = true
    · rw [eN_s, if_pos g]; rw [eN_s, if_pos g]
    · rw [eN_s, if_neg g]; exact ih
theorem finP_pt (tx pa : ZZ) (n : Nat) : (finP tx pa n).2.1 < 3 := by
  unfold finP
  split
  · rename_i h; exact runP_pt h
  · have h1 := runP_pt (eN_in tx pa n)
    unfold stepP
    split
    · show (if (runP tx pa (eN tx pa n)).2.1 = 2 then 0 else (runP tx pa (eN tx pa n)).2.1 + 1 : Nat) < 3
      by_cases g : (runP tx pa (eN tx pa n)).2.1 = 2
      · rw [if_pos g]; omega
      · rw [if_neg g]; omega
    · exact h1
def tAll (tx pa : ZZ) (nl : Nat) : Nat := if eN tx pa nl = nl then (if (finP tx pa nl).2.1 = 2 then (if (finP tx pa nl).2.2.1 = -1 then 1 else 0) else 1) else 1
def adZ (z pa : ZZ) (k : Nat) : ZZ := itN k (fun j z => insZ z (pa (3 * j)) (pa (3 * j + 1)) (pa (3 * j + 2))) z
theorem adZ_s (z pa : ZZ) (k : Nat) : adZ z pa (k + 1) = insZ (adZ z pa k) (pa (3 * k)) (pa (3 * k + 1)) (pa (3 * k + 2)) := rfl
def adN (z pa : ZZ) : Nat → Nat
  | 0 => 0
  | k + 1 => if adN z pa k = k ∧ canAdd (adZ z pa k) (pa (3 * k)) = true then k + 1 else adN z pa k
theorem adN_s (z pa : ZZ) (k : Nat) : adN z pa (k + 1) = if adN z pa k = k ∧ canAdd (adZ z pa k) (pa (3 * k)) = true then k + 1 else adN z pa k := rfl
theorem adN_le (z pa : ZZ) (k : Nat) : adN z pa k ≤ k := by
  induction k with
  | zero => exact Nat.le_refl _
  | succ k ih => rw [adN_s]; split <;> omega
theorem adN_stop {z pa : ZZ} {k n : Nat} (h : adN z pa k = k) (hk : k < n) (hb : canAdd (adZ z pa k) (pa (3 * k)) = false) : adN z pa n = k := by
  induction n with
  | zero => omega
  | succ n ih =>
    rw [adN_s]
    rcases Nat.lt_or_ge k n with q | q
    · rw [ih q, if_neg (by omega)]
    · obtain rfl : k = n := by omega
      rw [if_neg (by rw [hb]; simp), h]
theorem insAt_b (z : ZZ) (d : Int32) (k : Nat) : insAt z d k ≤ k := by
  induction k with
  | zero => exact Nat.le_refl _
  | succ k ih =>
    show (if z (5 + 4 * k) ≤ d then k + 1 else insAt z d k : Nat) ≤ k + 1
    by_cases g : z (5 + 4 * k) ≤ d
    · rw [if_pos g]; exact Nat.le_refl _
    · rw [if_neg g]; omega
theorem nR_ins {z : ZZ} (h : nR z < 10) (d hh s : Int32) : nR (insZ z d hh s) = nR z + 1 := by
  have hk := insAt_b z d (nR z)
  have e : insZ z d hh s 3 = nI (nR z + 1) := by
    unfold insZ; rw [upd_ne (by omega), upd_ne (by omega), upd_ne (by omega), upd_ne (by omega), upd_eq]
  show (insZ z d hh s 3).toNatClampNeg = nR z + 1
  rw [e, nI_clamp (by omega)]
theorem wf_ins {z : ZZ} (hw : WF z) (h : nR z < 10) {d hh s : Int32} {j : Nat} (hj : j ≤ 12) (hs : s = nI j) : WF (insZ z d hh s) := by
  have hk := insAt_b z d (nR z)
  have hR := nR_ins h d hh s
  have e3 : insZ z d hh s 3 = nI (nR z + 1) := by
    unfold insZ; rw [upd_ne (by omega), upd_ne (by omega), upd_ne (by omega), upd_ne (by omega), upd_eq]
  have e4 : insZ z d hh s 4 = z 4 := by
    unfold insZ; rw [upd_ne (by omega), upd_ne (by omega), upd_ne (by omega), upd_ne (by omega), upd_ne (by omega)]; unfold shZ; rw [if_neg (by omega)]
  have eC : nC (insZ z d hh s) = nC z := by unfold nC; rw [e4]
  refine ⟨?_, ?_, ?_, ?_, ?_⟩
  · rw [e3, hR]
  · omega
  · rw [e4, eC]; exact hw.2.2.1
  · rw [eC]; exact hw.2.2.2.1
  · intro q hq
    rw [hR] at hq
    rcases Nat.lt_trichotomy q (insAt z d (nR z)) with g | g | g
    · have e : insZ z d hh s (5 + 4 * q + 2) = z (5 + 4 * q + 2) := by
        unfold insZ; rw [upd_ne (by omega), upd_ne (by omega), upd_ne (by omega), upd_ne (by omega), upd_ne (by omega)]; unfold shZ; rw [if_neg (by omega)]
      have eN : nS (insZ z d hh s) q = nS z q := by unfold nS; rw [e]
      rw [e, eN]; exact hw.2.2.2.2 q (by omega)
    · have e : insZ z d hh s (5 + 4 * q + 2) = s := by
        unfold insZ; rw [upd_ne (by omega), g, upd_eq]
      have eN : nS (insZ z d hh s) q = j := by unfold nS; rw [e, hs, nI_clamp (by omega)]
      rw [e, eN]; exact ⟨hs, hj⟩
    · obtain ⟨q2, rfl⟩ : ∃ q2, q = q2 + 1 := ⟨q - 1, by omega⟩
      have e : insZ z d hh s (5 + 4 * (q2 + 1) + 2) = z (5 + 4 * q2 + 2) := by
        unfold insZ; rw [upd_ne (by omega), upd_ne (by omega), upd_ne (by omega), upd_ne (by omega), upd_ne (by omega)]; unfold shZ; rw [if_pos (by omega)]; rw [show 5 + 4 * (q2 + 1) + 2 - 4 = 5 + 4 * q2 + 2 by omega]
      have eN : nS (insZ z d hh s) (q2 + 1) = nS z q2 := by unfold nS; rw [e]
      rw [e, eN]; exact hw.2.2.2.2 q2 (by omega)
/-- the rows that a whole text tells -/
theorem fin_ok {tx pa : ZZ} {nl : Nat} (h : tAll tx pa nl = 0) : eN tx pa nl = nl ∧ (finP tx pa nl).2.1 = 2 ∧ 6 * (finP tx pa nl).1 + 5 ≤ nl ∧ ∀ i q, q < 3 → i ≤ (finP tx pa nl).1 → okN q ((finP tx pa nl).2.2.2 (3 * i + q)) := by
  unfold tAll at h
  split at h
  · rename_i h1
    split at h
    · rename_i h2
      split at h
      · cases h
      · rename_i h3
        refine ⟨h1, h2, ?_⟩
        rw [finP_a h1] at h2 h3 ⊢
        obtain ⟨g1, g2, g3, g4⟩ := runP_v h1
        obtain ⟨k1, k2⟩ := g4 h3
        rw [if_neg h3] at g2
        refine ⟨by omega, fun i q hq hi => ?_⟩
        rcases Nat.lt_or_ge (3 * i + q) (3 * (runP tx pa nl).1 + (runP tx pa nl).2.1) with a | a
        · exact g3 i q hq a
        · have e1 : i = (runP tx pa nl).1 := by omega
          have e2 : q = (runP tx pa nl).2.1 := by omega
          rw [e1, e2, k2]; exact k1
    · cases h
  · cases h
theorem okN_2 {v : Int32} (h : okN 2 v) : ∃ j, 1 ≤ j ∧ j ≤ 12 ∧ v = nI j := by
  unfold okN tdR at h
  rw [if_neg (by decide), if_neg (by decide)] at h
  exact wthn13_out h
theorem adZ_wf {z : ZZ} (hw : WF z) {pa : ZZ} {n : Nat} (hp : ∀ i q, q < 3 → i ≤ n → okN q (pa (3 * i + q))) {k : Nat} (hk : k ≤ n + 1) (h : adN z pa k = k) : WF (adZ z pa k) := by
  induction k with
  | zero => exact hw
  | succ k ih =>
    rw [adN_s] at h
    have h1 := adN_le z pa k
    split at h
    · rename_i g
      rw [adZ_s]
      obtain ⟨j, -, hj, e⟩ := okN_2 (hp k 2 (by decide) (by omega))
      exact wf_ins (ih (by omega) g.1) (canAdd_lt g.2) hj e
    · omega
/-- the digest, as the reference makes it -/
def wyD (z : ZZ) (k : Nat) (wy : ZZ) : ZZ := itN k (fun r w => wyRow z (nS z r) w) wy
def dgA (z : ZZ) (ns k : Nat) (h : Int64) : Int64 := itN k (fun w h => mixL h (countI z ns w).toInt64) h
def dgB (z : ZZ) (k : Nat) (h : Int64) : Int64 := itN k (fun w h => mixL h (z w).toInt64) h
def dgC (z wy : ZZ) (k : Nat) (h : Int64) : Int64 := itN k (fun r h => mixRowL z (wyD z r wy) r h) h
def dgD (z : ZZ) (k : Nat) (h : Int64) : Int64 := itN k (fun j h => mixL h (colNow z (j / 4) (j % 4)).toInt64) h
def dgE (z wy : ZZ) (k : Nat) (h : Int64) : Int64 := itN k (fun j h => mixL h (bestI z (layF z (wyRow z j wy)) (nI j)).toInt64) h
def dgF (z : ZZ) (nl : Nat) (h : Int64) : Int64 := mixL (mixL (mixL h (worstI z).toInt64) (d2lb (shareD z))) (nI nl).toInt64
def dgG (tx : ZZ) (k : Nat) (h : Int64) : Int64 := itN k (fun j h => mixL h (tx j).toInt64) h
def dg1 (z : ZZ) (ns : Nat) : Int64 := dgB z 3 (dgA z ns 9 2621)
def dg2 (z wy : ZZ) (ns : Nat) : Int64 := dgD z (4 * nC z) (dgC z wy (nR z) (dg1 z ns))
def dg3 (z wy : ZZ) (ns nl : Nat) : Int64 := dgF z nl (dgE z (wyD z (nR z) wy) 3 (dg2 z wy ns))
def digI (z wy tx : ZZ) (ns nl : Nat) : Int64 := dgG tx nl (dg3 z wy ns nl)
theorem dgA_0 (z : ZZ) (ns : Nat) (h : Int64) : dgA z ns 0 h = h := rfl
theorem dgA_s (z : ZZ) (ns k : Nat) (h : Int64) : dgA z ns (k + 1) h = mixL (dgA z ns k h) (countI z ns k).toInt64 := rfl
theorem dgB_0 (z : ZZ) (h : Int64) : dgB z 0 h = h := rfl
theorem dgB_s (z : ZZ) (k : Nat) (h : Int64) : dgB z (k + 1) h = mixL (dgB z k h) (z k).toInt64 := rfl
theorem dgC_0 (z wy : ZZ) (h : Int64) : dgC z wy 0 h = h := rfl
theorem dgC_s (z wy : ZZ) (k : Nat) (h : Int64) : dgC z wy (k + 1) h = mixRowL z (wyD z k wy) k (dgC z wy k h) := rfl
theorem dgD_0 (z : ZZ) (h : Int64) : dgD z 0 h = h := rfl
theorem dgD_s (z : ZZ) (k : Nat) (h : Int64) : dgD z (k + 1) h = mixL (dgD z k h) (colNow z (k / 4) (k % 4)).toInt64 := rfl
theorem dgE_0 (z wy : ZZ) (h : Int64) : dgE z wy 0 h = h := rfl
theorem dgE_s (z wy : ZZ) (k : Nat) (h : Int64) : dgE z wy (k + 1) h = mixL (dgE z wy k h) (bestI z (layF z (wyRow z k wy)) (nI k)).toInt64 := rfl
theorem dgG_0 (tx : ZZ) (h : Int64) : dgG tx 0 h = h := rfl
theorem dgG_s (tx : ZZ) (k : Nat) (h : Int64) : dgG tx (k + 1) h = mixL (dgG tx k h) (tx k).toInt64 := rfl
end
section
/-- cells that agree where the array lies -/
theorem cell_ext {cA : ClassId} {n : Nat} {f g : ZZ} (h : ∀ j, j < n → f j = g j) : vp_cell cA (n, .inl f) = vp_cell cA (n, .inl g) := by
  rw [vp_cell_i, vp_cell_i]
  unfold arrV
  congr 2
  funext j
  show Value.int (f j.val) = Value.int (g j.val)
  rw [h j.val j.isLt]
theorem arr_ext {D : va_G} {cl : List vw_C} {ws : va_W} {H : Heap} (hP : va_P D cl ws H) (i : Nat) {q : Nat} {cA : ClassId} {n : Nat} {f g : ZZ} (hi : ws[i]? = some (q, .inl (cA, n, .inl f))) (h : ∀ j, j < n → f j = g j) : va_P D cl (ws.set i (q, .inl (cA, n, .inl g))) H := by
  intro k e hk
  have hl : i < ws.length := (List.getElem?_eq_some_iff.mp hi).1
  by_cases hki : k = i
  · subst hki
    rw [List.getElem?_set_self hl] at hk
    obtain rfl := Option.some.inj hk
    have h1 := hP k _ hi
    show H[q]? = some (vp_cell cA (n, .inl g))
    rw [← cell_ext h]; exact h1
  · rw [List.getElem?_set_ne (Ne.symm hki)] at hk
    exact hP k e hk
theorem hw_ext {D : va_G} {cl : List vw_C} {b : Nat → Nat} {cI : ClassId} {ro ro' : Int32} {di hg se ta : ZZ} {co co' : Int32} {cd cs ch sg : ZZ} {H : Heap} (hP : va_P D cl (HR b cI ro di hg se ta co cd cs ch sg) H) (di' hg' se' ta' cd' cs' ch' sg' : ZZ) (h0 : ro = ro') (h1 : ∀ j, j < 10 → di j = di' j) (h2 : ∀ j, j < 10 → hg j = hg' j) (h3 : ∀ j, j < 10 → se j = se' j) (h4 : ∀ j, j < 10 → ta j = ta' j) (h9 : co = co') (h5 : ∀ j, j < 4 → cd j = cd' j) (h6 : ∀ j, j < 4 → cs j = cs' j) (h7 : ∀ j, j < 4 → ch j = ch' j) (h8 : ∀ j, j < 3 → sg j = sg' j) : va_P D cl (HR b cI ro' di' hg' se' ta' co' cd' cs' ch' sg') H := by
  subst h0 h9
  have e1 : va_P D cl (HR b cI ro di' hg se ta co cd cs ch sg) H := arr_ext hP 1 rfl h1
  have e2 : va_P D cl (HR b cI ro di' hg' se ta co cd cs ch sg) H := arr_ext e1 2 rfl h2
  have e3 : va_P D cl (HR b cI ro di' hg' se' ta co cd cs ch sg) H := arr_ext e2 3 rfl h3
  have e4 : va_P D cl (HR b cI ro di' hg' se' ta' co cd cs ch sg) H := arr_ext e3 4 rfl h4
  have e5 : va_P D cl (HR b cI ro di' hg' se' ta' co cd' cs ch sg) H := arr_ext e4 5 rfl h5
  have e6 : va_P D cl (HR b cI ro di' hg' se' ta' co cd' cs' ch sg) H := arr_ext e5 6 rfl h6
  have e7 : va_P D cl (HR b cI ro di' hg' se' ta' co cd' cs' ch' sg) H := arr_ext e6 7 rfl h7
  exact arr_ext e7 8 rfl h8
theorem vaD_ext {A : Nat → Prop} {ws ws' : va_W} (h : ws.map (fun q => q.1) = ws'.map (fun q => q.1)) (hD : va_D A ws) : va_D A ws' := by
  have key : ∀ (k : Nat) (q : Nat × va_E), ws'[k]? = some q → ∃ p, ws[k]? = some p ∧ p.1 = q.1 := by
    intro k q hq
    have h1 : (ws'.map (fun q => q.1))[k]? = some q.1 := by rw [List.getElem?_map, hq]; rfl
    rw [← h, List.getElem?_map] at h1
    cases hw : ws[k]? with
    | none => rw [hw] at h1; cases h1
    | some p => rw [hw] at h1; exact ⟨p, rfl, Option.some.inj h1⟩
  refine ⟨fun i j p q hi hj hpq => ?_, fun k q hq => ?_⟩
  · obtain ⟨p1, a1, b1⟩ := key i p hi
    obtain ⟨q1, a2, b2⟩ := key j q hj
    exact hD.1 i j p1 q1 a1 a2 (by rw [b1, b2, hpq])
  · obtain ⟨p, a1, b1⟩ := key k q hq
    rw [← b1]; exact hD.2 k p a1
section KZ
variable {p : Program} {l : Launch} {e : Env} {R : Room} {s : State} {m : MethodId} {args : Array Value} {below : List Frame} {meth : Method} {c : Code} {H : Heap} {locs : List Loc} {cells slots : Nat} {Q : State → Prop}
variable {cc : ByteArray} {pc : Nat} {ls : Array Slot} {rest : List Value} {D : va_G} {cl : List vw_C} {ws : va_W} {tys : List (ClassId × FieldType)} {A : Nat → Prop} {H0 : Heap} {q : Addr}
theorem kx_copyi (hexec : p.tables.exec = Jvm.exec) (hb : c.code = cc) (hml : c.maxLocals = ls.size) {own : String} {index : Nat} (hown : s.vm.findClass own = some m.cls) (hlink : (Cond.methodLink own index arraycopyName).before args s = true) (hnat : (Cond.native arraycopyName).before args s = true) (hstat : (Cond.static arraycopyName).before args s = true) (hini : (Cond.initialized "java/lang/System").before args s = true)
    (hK : va_K D cl tys s) (hP : va_P D cl ws H) (hD : va_D A ws) (hS : va_S A H0 H locs) (q0 q1 t0 : Nat) {a0 : Nat} {c0 : ClassId} {n0 n1 : Nat} {f g : Nat → Int32} (ha0 : ws[q0]? = some (a0, .inl (c0, n0, .inl f))) (ha1 : ws[q1]? = some (q, .inl (c0, n1, .inl g))) (ht0 : tys[t0]? = some (c0, .int)) (N : Nat) (h0 : N ≤ n0) (h1 : N ≤ n1) (hN : N < 2 ^ 31)
    (hframes : 1 ≤ R.frames) (hlocals : (rest.map fun v => v.category).sum + (nativeFrameWords "java/lang/System" "arraycopy" 5 + 11) ≤ R.locals) (hdg : decode cc pc = .ok (.invokestatic index, 3))
    (kk : ∀ (H1 : Heap) (locs1 : List Loc), va_P D cl (ws.set q1 (q, .inl (c0, n1, .inl (va_cpy f g 0 0 N)))) H1 → va_D A (ws.set q1 (q, .inl (c0, n1, .inl (va_cpy f g 0 0 N)))) → va_S A H0 H1 locs1 → W p l e R s m args below meth c H1 locs1 cells slots Q (F0 m (pc + 3) ls rest)) : W p l e R s m args below meth c H locs cells slots Q (F0 m pc ls (.int (nI N) :: .int (nI 0) :: .ref q :: .int (nI 0) :: .ref a0 :: rest)) := by
  have e0 : (nI 0).toNatClampNeg = 0 := nI_clamp (by decide)
  have eN : (nI N).toNatClampNeg = N := nI_clamp hN
  refine va_copyi (a := q) hexec hb hml hown hlink hnat hstat hini hK hP hD hS q0 q1 t0 t0 ha0 ha1 ht0 ht0 rfl (nI_pos (by decide)) (nI_pos (by decide)) (nI_pos hN) (by rw [e0, eN]; omega) (by rw [e0, eN]; omega) (fun _ _ => rfl) hframes hlocals hdg ?_
  rw [e0, eN]
  exact kk
end KZ
def shA (f : ZZ) (k R : Nat) : ZZ := fun j => if k + 1 ≤ j ∧ j ≤ R then f (j - 1) else f j
def dlA (f : ZZ) (r k : Nat) : ZZ := fun j => if r ≤ j ∧ j + 1 < k then f (j + 1) else f j
def zrA (f : ZZ) (k : Nat) : ZZ := fun j => if j < k then nI 0 else f j
def bitsI (f m : Nat) : Int32 := ((nI 1 <<< (nI m &&& 31)) - nI 1) <<< (nI f &&& 31)
def occZ (z : ZZ) (r f m : Nat) : ZZ := upd z (5 + 4 * r + 3) (z (5 + 4 * r + 3) ||| bitsI f m)
def vacZ (z : ZZ) (r f : Nat) : ZZ := upd z (5 + 4 * r + 3) (z (5 + 4 * r + 3) &&& (bitsI f 1 ^^^ (-1)))
def freeB (z : ZZ) (r f m : Nat) : Bool := decide (z (5 + 4 * r + 3) &&& bitsI f m = 0)
theorem vaD_x {A : Nat → Prop} {ws ws' : va_W} (hD : va_D A ws) (h : ws.map (fun q => q.1) = ws'.map (fun q => q.1)) : va_D A ws' := vaD_ext h hD
theorem ins_3 {z : ZZ} (d hh s : Int32) : insZ z d hh s 3 = nI (nR z + 1) := by
  unfold insZ; rw [upd_ne (by omega), upd_ne (by omega), upd_ne (by omega), upd_ne (by omega), upd_eq]
theorem ins_hi {z : ZZ} {d hh s : Int32} {j : Nat} (h : nR z < 10) (hj : j < 4 ∧ j ≠ 3 ∨ j = 4 ∨ 45 ≤ j) : insZ z d hh s j = z j := by
  have hk := insAt_b z d (nR z)
  unfold insZ; rw [upd_ne (by omega), upd_ne (by omega), upd_ne (by omega), upd_ne (by omega), upd_ne (by omega)]; unfold shZ; rw [if_neg (by omega)]
theorem ins_row {z : ZZ} {d hh s : Int32} {j w : Nat} (h : nR z < 10) (hj : j < 10) (hw : w < 4) (x : Int32) (hx : x = (if w = 0 then d else if w = 1 then hh else if w = 2 then s else nI 0)) : upd (shA (fun j => z (5 + 4 * j + w)) (insAt z d (nR z)) (nR z)) (insAt z d (nR z)) x j = insZ z d hh s (5 + 4 * j + w) := by
  have hk := insAt_b z d (nR z)
  generalize hq : insAt z d (nR z) = k at hk ⊢
  have e : insZ z d hh s = upd (upd (upd (upd (upd (shZ z k (nR z) 0) 3 (nI (nR z + 1))) (5 + 4 * k) d) (5 + 4 * k + 1) hh) (5 + 4 * k + 2) s) (5 + 4 * k + 3) (nI 0) := by unfold insZ; rw [hq]
  rw [e]
  by_cases hjk : j = k
  · subst hjk
    rw [upd_eq, hx]
    rcases (show w = 0 ∨ w = 1 ∨ w = 2 ∨ w = 3 by omega) with rfl | rfl | rfl | rfl
    · rw [upd_ne (by omega), upd_ne (by omega), upd_ne (by omega)]; exact upd_eq.symm
    · rw [upd_ne (by omega), upd_ne (by omega)]; exact upd_eq.symm
    · rw [upd_ne (by omega)]; exact upd_eq.symm
    · exact upd_eq.symm
  · rw [upd_ne hjk, upd_ne (by omega), upd_ne (by omega), upd_ne (by omega), upd_ne (by omega), upd_ne (by omega)]
    unfold shA shZ
    by_cases g : k + 1 ≤ j ∧ j ≤ nR z
    · rw [if_pos g, if_pos (by omega)]
      show z (5 + 4 * (j - 1) + w) = _
      congr 1; omega
    · rw [if_neg g, if_neg (by omega)]
end
section
/-! pure facts; the rows bt .. b_sshr are pasted from kit/laws/BITS.to-paste -/
def bt (x : Int32) (i : Nat) : Bool := x.toBitVec.getLsbD i
theorem b_ext {x y : Int32} (h : ∀ i, i < 32 → bt x i = bt y i) : x = y := Int32.toBitVec_inj.mp (BitVec.eq_of_getLsbD_eq (fun i hi => h i hi))
theorem b_or (x y : Int32) (i : Nat) : bt (x ||| y) i = (bt x i || bt y i) := by unfold bt; rw [Int32.toBitVec_or, BitVec.getLsbD_or]
theorem b_and (x y : Int32) (i : Nat) : bt (x &&& y) i = (bt x i && bt y i) := by unfold bt; rw [Int32.toBitVec_and, BitVec.getLsbD_and]
theorem b_xor (x y : Int32) (i : Nat) : bt (x ^^^ y) i = (bt x i ^^ bt y i) := by unfold bt; rw [Int32.toBitVec_xor, BitVec.getLsbD_xor]
theorem b_big {x : Int32} {i : Nat} (h : 32 ≤ i) : bt x i = false := BitVec.getLsbD_of_ge _ _ h
theorem b_m1 : ∀ i, i < 32 → bt (-1) i = true := by decide +kernel
theorem b_0 (i : Nat) : bt 0 i = false := BitVec.getLsbD_zero
theorem s_l : ∀ n, n < 32 → ((nI n &&& 31).toBitVec.smod 32).toNat = n := by decide +kernel
theorem s_u : ∀ n, n < 32 → (((nI n).toUInt32 &&& Int32.toUInt32 31).toBitVec % 32).toNat = n := by decide +kernel
theorem b_shl (n : Nat) (hn : n < 32) (x : Int32) {i : Nat} (hi : i < 32) : bt (x <<< (nI n &&& 31)) i = (decide (n ≤ i) && bt x (i - n)) := by
  unfold bt
  rw [Int32.toBitVec_shiftLeft]
  show (x.toBitVec <<< ((nI n &&& 31).toBitVec.smod 32).toNat).getLsbD i = _
  rw [s_l n hn, BitVec.getLsbD_shiftLeft]
  rcases Nat.lt_or_ge i n with h | h
  · simp [h, Nat.not_le.mpr h]
  · simp [hi, h, Nat.not_lt.mpr h]
theorem b_ushr (n : Nat) (hn : n < 32) (x : Int32) (i : Nat) : bt ((x.toUInt32 >>> ((nI n).toUInt32 &&& Int32.toUInt32 31)).toInt32) i = bt x (n + i) := by
  show (x.toUInt32 >>> ((nI n).toUInt32 &&& Int32.toUInt32 31)).toBitVec.getLsbD i = x.toUInt32.toBitVec.getLsbD (n + i)
  rw [UInt32.toBitVec_shiftRight]
  show (x.toUInt32.toBitVec >>> (((nI n).toUInt32 &&& Int32.toUInt32 31).toBitVec % 32).toNat).getLsbD i = _
  rw [s_u n hn, BitVec.getLsbD_ushiftRight]
theorem b_sshr (n : Nat) (hn : n < 32) (x : Int32) {i : Nat} (hi : i < 32) : bt (x >>> (nI n &&& 31)) i = if n + i < 32 then bt x (n + i) else bt x 31 := by
  unfold bt
  rw [Int32.toBitVec_shiftRight]
  show (x.toBitVec.sshiftRight ((nI n &&& 31).toBitVec.smod 32).toNat).getLsbD i = _
  rw [s_l n hn, BitVec.getLsbD_sshiftRight, BitVec.msb_eq_getLsbD_last]
  simp [hi]
theorem b_one : ∀ i, i < 32 → bt (nI 1) i = decide (i = 0) := by decide +kernel
theorem tk_bt (x : Int32) {s : Nat} (hs : s < 31) : decide ((x >>> (nI s &&& 31)) &&& nI 1 = nI 1) = bt x s := by
  cases hb : bt x s with
  | true =>
    refine decide_eq_true (b_ext fun i hi => ?_)
    rw [b_and, b_sshr s (by omega) x hi, b_one i hi]
    by_cases h0 : i = 0
    · subst h0; rw [Nat.add_zero, if_pos (by omega), hb]; rfl
    · rw [decide_eq_false h0, Bool.and_false]
  | false =>
    refine decide_eq_false fun h => ?_
    have h1 : bt ((x >>> (nI s &&& 31)) &&& nI 1) 0 = bt (nI 1) 0 := by rw [h]
    rw [b_and, b_sshr s (by omega) x (by decide), b_one 0 (by decide), Nat.add_zero, if_pos (by omega), hb] at h1
    exact absurd h1 (by decide)
theorem low_bt : ∀ m, m < 13 → ∀ i, i < 32 → bt ((nI 1 <<< (nI m &&& 31)) - nI 1) i = decide (i < m) := by decide +kernel
theorem bitsI_bt {f m : Nat} (hm : m ≤ 12) (hf : f ≤ 12) {i : Nat} (hi : i < 32) : bt (bitsI f m) i = decide (f ≤ i ∧ i < f + m) := by
  unfold bitsI
  rw [b_shl f (by omega) _ hi]
  by_cases h : f ≤ i
  · rw [decide_eq_true h, Bool.true_and, low_bt m (by omega) (i - f) (by omega)]
    congr 1; apply propext; constructor
    · intro q; omega
    · intro q; omega
  · rw [decide_eq_false h, Bool.false_and]
    exact (decide_eq_false (by omega)).symm
theorem one_shl_bt {f : Nat} (hf : f < 31) {i : Nat} (hi : i < 32) : bt (nI 1 <<< (nI f &&& 31)) i = decide (i = f) := by
  rw [b_shl f (by omega) _ hi, b_one (i - f) (by omega)]
  by_cases h : f ≤ i
  · rw [decide_eq_true h, Bool.true_and]; congr 1; apply propext; omega
  · rw [decide_eq_false h, Bool.false_and]; exact (decide_eq_false (by omega)).symm
theorem bitsI_1 (f : Nat) : bitsI f 1 = nI 1 <<< (nI f &&& 31) := by
  unfold bitsI
  rw [show (nI 1 <<< (nI 1 &&& 31)) - nI 1 = nI 1 from by decide +kernel]
theorem vac_leave (z : ZZ) (r s : Nat) : vacZ z r s = leaveZ z r s := by unfold vacZ leaveZ; rw [bitsI_1]
theorem occ_take (z : ZZ) (r s : Nat) : occZ z r s 1 = takeZ z r s := by unfold occZ takeZ; rw [bitsI_1]
theorem bits_s {f m : Nat} (h : f + m < 12) (x : Int32) : (x ||| bitsI f m) ||| (nI 1 <<< (nI (f + m) &&& 31)) = x ||| bitsI f (m + 1) := by
  refine b_ext fun i hi => ?_
  rw [b_or, b_or, b_or, bitsI_bt (by omega) (by omega) hi, bitsI_bt (by omega) (by omega) hi, one_shl_bt (by omega) hi, Bool.or_assoc]
  congr 1
  by_cases h1 : f ≤ i ∧ i < f + m
  · rw [decide_eq_true h1, Bool.true_or, decide_eq_true (by omega)]
  · rw [decide_eq_false h1, Bool.false_or]; congr 1; apply propext; omega
theorem bits_0 {f : Nat} (hf : f < 32) (x : Int32) : x ||| bitsI f 0 = x := by
  have h : bitsI f 0 = 0 := by
    unfold bitsI
    rw [show (nI 1 <<< (nI 0 &&& 31)) - nI 1 = 0 from by decide +kernel]
    refine b_ext fun i hi => ?_
    rw [b_shl f hf _ hi, b_0, b_0, Bool.and_false]
  rw [h, Int32.or_zero]
theorem upd_upd (z : ZZ) (i : Nat) (v w : Int32) : upd (upd z i v) i w = upd z i w := by
  funext j; unfold upd; by_cases h : j = i <;> simp [h]
theorem upd_same (z : ZZ) (i : Nat) : upd z i (z i) = z := by
  funext j; unfold upd; by_cases h : j = i <;> simp [h]
theorem party_occ (z : ZZ) (r f : Nat) {m : Nat} (h : f + m ≤ 12) : partyZ z r f m = occZ z r f m := by
  induction m with
  | zero => unfold occZ; rw [bits_0 (by omega), upd_same]; rfl
  | succ m ih =>
    show takeZ (partyZ z r f m) r (f + m) = _
    rw [ih (by omega)]
    unfold takeZ occZ
    rw [upd_eq, upd_upd, bits_s (by omega)]
theorem freeB_all (z : ZZ) (r f : Nat) {m : Nat} (h : f + m ≤ 12) : freeB z r f m = allN m (fun j => !tk z r (f + j)) := by
  unfold freeB
  have K : (z (5 + 4 * r + 3) &&& bitsI f m = 0) ↔ ∀ j, j < m → bt (z (5 + 4 * r + 3)) (f + j) = false := by
    constructor
    · intro q j hj
      have h1 : bt (z (5 + 4 * r + 3) &&& bitsI f m) (f + j) = bt 0 (f + j) := by rw [q]
      rw [b_and, bitsI_bt (by omega) (by omega) (by omega), decide_eq_true (by omega), Bool.and_true, b_0] at h1
      exact h1
    · intro q
      refine b_ext fun i hi => ?_
      rw [b_and, bitsI_bt (by omega) (by omega) hi, b_0]
      by_cases h1 : f ≤ i ∧ i < f + m
      · have := q (i - f) (by omega)
        rw [show f + (i - f) = i by omega] at this
        rw [this]; rfl
      · rw [decide_eq_false h1, Bool.and_false]
  by_cases g : z (5 + 4 * r + 3) &&& bitsI f m = 0
  · rw [decide_eq_true g]
    refine (allN_t fun j hj => ?_).symm
    show (!tk z r (f + j)) = true
    rw [show tk z r (f + j) = bt (z (5 + 4 * r + 3)) (f + j) from tk_bt _ (by omega), K.mp g j hj]; rfl
  · rw [decide_eq_false g]
    symm
    by_cases g2 : ∀ j, j < m → bt (z (5 + 4 * r + 3)) (f + j) = false
    · exact absurd (K.mpr g2) g
    · have : ∃ j, j < m ∧ bt (z (5 + 4 * r + 3)) (f + j) = true := by
        refine Classical.byContradiction fun q => g2 fun j hj => ?_
        cases hb : bt (z (5 + 4 * r + 3)) (f + j) with
        | false => rfl
        | true => exact absurd ⟨j, hj, hb⟩ q
      obtain ⟨j, hj, hb⟩ := this
      refine allN_f hj ?_
      show (!tk z r (f + j)) = false
      rw [show tk z r (f + j) = bt (z (5 + 4 * r + 3)) (f + j) from tk_bt _ (by omega), hb]; rfl
/-- the count of bits, as Integer.bitCount makes it -/
def ush (x : Int32) (k : Int32) : Int32 := (x.toUInt32 >>> (k.toUInt32 &&& Int32.toUInt32 31)).toInt32
def bc1 (x : Int32) : Int32 := x - (ush x (nI 1) &&& 1431655765)
def bc2 (x : Int32) : Int32 := (bc1 x &&& 858993459) + (ush (bc1 x) (nI 2) &&& 858993459)
def bc3 (x : Int32) : Int32 := (bc2 x + ush (bc2 x) (nI 4)) &&& 252645135
def bc4 (x : Int32) : Int32 := bc3 x + ush (bc3 x) (nI 8)
def bc5 (x : Int32) : Int32 := bc4 x + ush (bc4 x) (nI 16)
def bcI (x : Int32) : Int32 := bc5 x &&& nI 63
theorem bc_cnt0 : ∀ S, S < 13 → ∀ a, a < 64 → ∀ c, c < 64 → 64 * a + c < 2 ^ S → bcI (nI (64 * a + c)) = nI (sumN S fun w => b2 (decide ((nI (64 * a + c) >>> (nI w &&& 31)) &&& nI 1 = nI 1))) := by decide +kernel
theorem bc_cnt (S : Nat) (hS : S < 13) (t : Nat) (ht : t < 2 ^ S) : bcI (nI t) = nI (sumN S fun w => b2 (decide ((nI t >>> (nI w &&& 31)) &&& nI 1 = nI 1))) := by
  have h1 : 2 ^ S ≤ 2 ^ 12 := Nat.pow_le_pow_right (by decide) (by omega)
  have h2 : t < 4096 := Nat.lt_of_lt_of_le ht h1
  have h := bc_cnt0 S hS (t / 64) (by omega) (t % 64) (Nat.mod_lt _ (by decide)) (by omega)
  rw [show 64 * (t / 64) + t % 64 = t by omega] at h
  exact h
def VT (z : ZZ) : Prop := ∀ r, r < nR z → ∃ t, t < 2 ^ nS z r ∧ z (5 + 4 * r + 3) = nI t
theorem tk_cnt {z : ZZ} (hw : WF z) (hv : VT z) {r : Nat} (hr : r < nR z) : bcI (z (5 + 4 * r + 3)) = nI (takenIn z r) := by
  obtain ⟨t, ht, e⟩ := hv r hr
  have h12 := wf_S12 hw hr
  rw [e, bc_cnt (nS z r) (by omega) t ht]
  unfold takenIn tk
  rw [e]
end
section
/-! pure facts on quotients and products of ints in range -/
theorem bm {x : Int} (h1 : -2147483648 ≤ x) (h2 : x < 2147483648) : x.bmod (2 ^ 32) = x := by
  rw [Int.bmod_def]; split <;> omega
theorem ti_mul {a b : Int32} (h1 : -2147483648 ≤ a.toInt * b.toInt) (h2 : a.toInt * b.toInt < 2147483648) : (a * b).toInt = a.toInt * b.toInt := by rw [Int32.toInt_mul]; exact bm h1 h2
theorem ti_add {a b : Int32} (h1 : -2147483648 ≤ a.toInt + b.toInt) (h2 : a.toInt + b.toInt < 2147483648) : (a + b).toInt = a.toInt + b.toInt := by rw [Int32.toInt_add]; exact bm h1 h2
theorem ti_sub {a b : Int32} (h1 : -2147483648 ≤ a.toInt - b.toInt) (h2 : a.toInt - b.toInt < 2147483648) : (a - b).toInt = a.toInt - b.toInt := by rw [Int32.toInt_sub]; exact bm h1 h2
theorem ti_neg {a : Int32} (h2 : -2147483648 < a.toInt) : (-a).toInt = -a.toInt := by
  have h3 := Int32.toInt_lt a
  rw [Int32.toInt_neg]; exact bm (by omega) (by omega)
theorem ti_div {a b : Int32} (h1 : -2147483648 ≤ a.toInt.tdiv b.toInt) (h2 : a.toInt.tdiv b.toInt < 2147483648) : (a / b).toInt = a.toInt.tdiv b.toInt := by rw [Int32.toInt_div]; exact bm h1 h2
theorem ti_nI {n : Nat} (h : n < 2 ^ 31) : (nI n).toInt = n := nI_toInt h
def fdI (x y : Int32) : Int32 := if 0 ≤ x ^^^ y then x / y else if (x / y) * y = x then x / y else x / y - nI 1
theorem neg_msb (x : Int32) : x.toBitVec.msb = decide (x.toInt < 0) := BitVec.msb_eq_toInt
theorem xor_nn {x y : Int32} (hx : 0 ≤ x.toInt) (hy : 0 ≤ y.toInt) : 0 ≤ x ^^^ y := by
  have h : (x ^^^ y).toBitVec.msb = false := by
    rw [Int32.toBitVec_xor, BitVec.msb_xor, neg_msb, neg_msb, decide_eq_false (by omega), decide_eq_false (by omega)]; rfl
  rw [neg_msb, decide_eq_false_iff_not] at h
  exact Int32.le_iff_toInt_le.mpr (by have : (0 : Int32).toInt = 0 := by decide
                                      omega)
theorem xor_np {x y : Int32} (hx : x.toInt < 0) (hy : 0 ≤ y.toInt) : ¬ 0 ≤ x ^^^ y := by
  have h : (x ^^^ y).toBitVec.msb = true := by
    rw [Int32.toBitVec_xor, BitVec.msb_xor, neg_msb, neg_msb, decide_eq_true hx, decide_eq_false (by omega)]; rfl
  rw [neg_msb, decide_eq_true_eq] at h
  intro q
  have := Int32.le_iff_toInt_le.mp q
  have h0 : (0 : Int32).toInt = 0 := by decide
  omega
theorem fd_up {h d n : Int32} (hv1 : -2000000 ≤ h.toInt * d.toInt) (hv2 : h.toInt * d.toInt ≤ 2000000) (hn1 : 1 ≤ n.toInt) (hn2 : n.toInt ≤ 999) : -(fdI ((-h) * d) n) = upw (h * d) n := by
  have e : (-h) * d = -(h * d) := Int32.neg_mul _ _
  rw [e]
  have hp : (h * d).toInt = h.toInt * d.toInt := ti_mul (by omega) (by omega)
  generalize h * d = v at hp ⊢
  generalize h.toInt * d.toInt = V at hp hv1 hv2
  have hng : (-v).toInt = -V := by rw [ti_neg (by omega), hp]
  have h0 : (0 : Int32).toInt = 0 := by decide
  unfold upw fdI
  by_cases hle : v ≤ 0
  · have hl := Int32.le_iff_toInt_le.mp hle
    rw [if_pos (xor_nn (by omega) (by omega)), if_pos hle]
  · have hl : ¬ v.toInt ≤ (0 : Int32).toInt := fun q => hle (Int32.le_iff_toInt_le.mpr q)
    rw [if_neg (xor_np (by omega) (by omega)), if_neg hle]
    have hV : 0 < V := by omega
    generalize hN : n.toInt = N at *
    have hq0 : (-V).tdiv N = -(V / N) := by
      rw [Int.neg_tdiv, Int.tdiv_eq_ediv_of_nonneg (by omega)]
    have hb1 : 0 ≤ V / N := Int.ediv_nonneg (by omega) (by omega)
    have hb2 : V / N ≤ V := Int.ediv_le_self _ (by omega)
    have hq : ((-v) / n).toInt = -(V / N) := by
      rw [ti_div (by rw [hng, hN, hq0]; omega) (by rw [hng, hN, hq0]; omega), hng, hN, hq0]
    have hmod : N * (V / N) + V % N = V := Int.mul_ediv_add_emod V N
    have hm1 : 0 ≤ V % N := Int.emod_nonneg _ (by omega)
    have hm2 : V % N < N := Int.emod_lt_of_pos _ (by omega)
    have h1I : (nI 1).toInt = 1 := by decide
    have hs : ((v + n) - nI 1).toInt = V + N - 1 := by
      rw [ti_sub (by rw [ti_add (by omega) (by omega)]; omega) (by rw [ti_add (by omega) (by omega)]; omega), ti_add (by omega) (by omega), hp, hN, h1I]
    have hr : (((v + n) - nI 1) / n).toInt = (V + N - 1) / N := by
      have g1 : (V + N - 1).tdiv N = (V + N - 1) / N := Int.tdiv_eq_ediv_of_nonneg (by omega)
      have g2 : 0 ≤ (V + N - 1) / N := Int.ediv_nonneg (by omega) (by omega)
      have g3 : (V + N - 1) / N ≤ V + N - 1 := Int.ediv_le_self _ (by omega)
      rw [ti_div (by rw [hs, hN, g1]; omega) (by rw [hs, hN, g1]; omega), hs, hN, g1]
    have hmul : (((-v) / n) * n).toInt = -(V / N) * N := by
      have g : N * (V / N) ≤ V := by omega
      have g0 : 0 ≤ N * (V / N) := Int.mul_nonneg (by omega) hb1
      have g1 : -(V / N) * N = -(N * (V / N)) := by rw [Int.neg_mul, Int.mul_comm]
      rw [ti_mul (by rw [hq, hN, g1]; omega) (by rw [hq, hN, g1]; omega), hq, hN]
    have g1 : -(V / N) * N = -(N * (V / N)) := by rw [Int.neg_mul, Int.mul_comm]
    by_cases hd : ((-v) / n) * n = -v
    · rw [if_pos hd]
      have h3 : (((-v) / n) * n).toInt = (-v).toInt := by rw [hd]
      rw [hmul, hng, g1] at h3
      refine Int32.toInt_inj.mp ?_
      rw [ti_neg (by rw [hq]; omega), hq, hr]
      have hz : V % N = 0 := by omega
      have : (V + N - 1) / N = V / N := by
        have e2 : V + N - 1 = (N - 1) + N * (V / N) := by omega
        rw [e2, Int.add_mul_ediv_left _ _ (by omega), Int.ediv_eq_zero_of_lt (by omega) (by omega)]; omega
      omega
    · rw [if_neg hd]
      have h3 : V % N ≠ 0 := by
        intro q
        refine hd (Int32.toInt_inj.mp ?_)
        rw [hmul, hng, g1]; omega
      refine Int32.toInt_inj.mp ?_
      rw [ti_neg (by rw [ti_sub (by rw [hq, h1I]; omega) (by rw [hq, h1I]; omega), hq, h1I]; omega), ti_sub (by rw [hq, h1I]; omega) (by rw [hq, h1I]; omega), hq, h1I, hr]
      have : (V + N - 1) / N = V / N + 1 := by
        have e2 : V + N - 1 = (V % N - 1) + N * (V / N + 1) := by rw [Int.mul_add]; omega
        rw [e2, Int.add_mul_ediv_left _ _ (by omega), Int.ediv_eq_zero_of_lt (by omega) (by omega)]; omega
      omega
def rng (x : Int32) (lo hi : Int) : Prop := lo ≤ x.toInt ∧ x.toInt ≤ hi
/-- what holds of a hall in use -/
def VAL (z : ZZ) : Prop := WF z ∧ WS z ∧ VT z ∧ (∀ r, r < nR z → rng (z (5 + 4 * r)) 1 999 ∧ rng (z (5 + 4 * r + 1)) 0 999 ∧ 1 ≤ nS z r) ∧ (rng (z 0) 0 999 ∧ rng (z 1) 1 300 ∧ rng (z 2) 0 100)
theorem val_wd {z : ZZ} (h : VAL z) : WD z := by
  intro r hr q
  have h1 := (h.2.2.2.1 r hr).1.1
  rw [q] at h1
  exact absurd h1 (by decide)
theorem head_ti {z : ZZ} (h : VAL z) {r : Nat} (hr : r < nR z) : -998 ≤ (headP z r).toInt ∧ (headP z r).toInt ≤ 1399 := by
  obtain ⟨a1, a2⟩ := (h.2.2.2.1 r hr).2.1
  obtain ⟨⟨b1, b2⟩, ⟨c1, c2⟩, ⟨d1, d2⟩⟩ := h.2.2.2.2
  unfold headP
  have e1 : (z (5 + 4 * r + 1) + z 1).toInt = (z (5 + 4 * r + 1)).toInt + (z 1).toInt := ti_add (by omega) (by omega)
  have e2 : (z (5 + 4 * r + 1) + z 1 + z 2).toInt = (z (5 + 4 * r + 1)).toInt + (z 1).toInt + (z 2).toInt := by rw [ti_add (by omega) (by omega), e1]
  rw [ti_sub (by omega) (by omega), e2]; omega
theorem mul_b {a b : Int} (h1 : -998 ≤ a) (h2 : a ≤ 1399) (h3 : 1 ≤ b) (h4 : b ≤ 999) : -2000000 ≤ a * b ∧ a * b ≤ 2000000 := by
  constructor
  · have : (-998) * b ≤ a * b := Int.mul_le_mul_of_nonneg_right h1 (by omega)
    omega
  · have : a * b ≤ 1399 * b := Int.mul_le_mul_of_nonneg_right h2 (by omega)
    omega
theorem hgt_eq {z : ZZ} (h : VAL z) {r a : Nat} (hr : r < nR z) (ha : a < nR z) : (-(fdI ((-headP z a) * z (5 + 4 * r)) (z (5 + 4 * a))) - z 1) + z 0 = hgtFor z r a := by
  obtain ⟨h1, h2⟩ := head_ti h ha
  obtain ⟨d1, d2⟩ := (h.2.2.2.1 r hr).1
  obtain ⟨n1, n2⟩ := (h.2.2.2.1 a ha).1
  obtain ⟨m1, m2⟩ := mul_b h1 h2 d1 d2
  unfold hgtFor
  rw [fd_up m1 m2 n1 n2]
theorem max1 {x : Int32} (h : 1 ≤ x.toInt) : (if nI 1 < x then x else nI 1) = x := by
  by_cases q : nI 1 < x
  · rw [if_pos q]
  · rw [if_neg q]
    have h1 : (nI 1).toInt = 1 := by decide
    have h2 : ¬ (nI 1).toInt < x.toInt := fun g => q (Int32.lt_iff_toInt_lt.mpr g)
    exact Int32.toInt_inj.mp (by omega)
end
section
/-! the order of seats: the reference's comparisons are those of one number a seat -/
theorem sumN_c {n : Nat} {f g : Nat → Nat} (h : ∀ k, k < n → f k = g k) : sumN n f = sumN n g := by
  induction n with
  | zero => rfl
  | succ n ih => rw [sumN_s, sumN_s, ih (fun k hk => h k (by omega)), h n (by omega)]
theorem itN_c {α : Type} {n : Nat} {f g : Nat → α → α} {x : α} (h : ∀ k y, k < n → f k y = g k y) : itN n f x = itN n g x := by
  induction n with
  | zero => rfl
  | succ n ih => rw [itN_s, itN_s, ih (fun k y hk => h k y (by omega)), h n _ (by omega)]
theorem sumN_le {n : Nat} {f g : Nat → Nat} (h : ∀ k, k < n → f k ≤ g k) : sumN n f ≤ sumN n g := by
  induction n with
  | zero => exact Nat.le_refl _
  | succ n ih =>
    have h1 := ih (fun k hk => h k (by omega))
    have h2 := h n (by omega)
    rw [sumN_s, sumN_s]; omega
theorem sumN_lt {n : Nat} {f g : Nat → Nat} (h : ∀ k, k < n → f k ≤ g k) {j : Nat} (hj : j < n) (h2 : f j < g j) : sumN n f < sumN n g := by
  induction n with
  | zero => omega
  | succ n ih =>
    rw [sumN_s, sumN_s]
    rcases Nat.lt_or_ge j n with q | q
    · have h1 := ih (fun k hk => h k (by omega)) q
      have h3 := h n (by omega)
      omega
    · obtain rfl : j = n := by omega
      have h1 := sumN_le (n := j) (fun k hk => h k (show k < j + 1 by omega))
      omega
theorem sumN_add {n : Nat} {f g : Nat → Nat} : sumN n (fun k => f k + g k) = sumN n f + sumN n g := by
  induction n with
  | zero => rfl
  | succ n ih => rw [sumN_s, sumN_s, sumN_s, ih]; omega
theorem layR_at (z wy : ZZ) (r n j : Nat) : itN n (layS z r) wy j = if 12 * r ≤ j ∧ j < 12 * r + n then nI (ways z r (j - 12 * r)) else wy j := by
  induction n with
  | zero => rw [if_neg (by omega)]; rfl
  | succ n ih =>
    rw [itN_s]
    unfold layS
    by_cases h : j = 12 * r + n
    · subst h
      rw [upd_eq, if_pos (by omega), show 12 * r + n - 12 * r = n by omega]
    · rw [upd_ne h]
      have e : itN n (layS z r) wy j = _ := ih
      unfold layS at e
      rw [e]
      by_cases g : 12 * r ≤ j ∧ j < 12 * r + n
      · rw [if_pos g, if_pos (by omega)]
      · rw [if_neg g, if_neg (by omega)]
theorem layF_at {z : ZZ} (hw : WF z) (wy : ZZ) {r s : Nat} (hr : r < nR z) (hs : s < nS z r) : layF z wy (12 * r + s) = nI (ways z r s) := by
  have h12 := wf_S12 hw hr
  have K : ∀ k, k ≤ nR z → r < k → itN k (layR z) wy (12 * r + s) = nI (ways z r s) := by
    intro k
    induction k with
    | zero => intro _ h; omega
    | succ k ih =>
      intro hk hrk
      rw [itN_s]
      unfold layR
      rw [layR_at]
      have h2 := wf_S12 hw (show k < nR z by omega)
      by_cases g : k = r
      · subst g
        rw [if_pos (by omega), show 12 * k + s - 12 * k = s by omega]
      · rw [if_neg (by omega)]
        exact ih (by omega) (by omega)
  exact K (nR z) (Nat.le_refl _) hr
def sdN (z : ZZ) (r s : Nat) : Nat := if nS z r ≤ 2 * s + 1 then 2 * s + 1 - nS z r else nS z r - (2 * s + 1)
def rkN (z : ZZ) (r s : Nat) : Nat := ((ways z r s * 10 + r) * 12 + sdN z r s) * 12 + s
theorem absI_n {n : Nat} (h : n < 2 ^ 31) : absI (nI n) = nI n := by unfold absI; rw [if_neg (nI_pos h)]
theorem absI_neg {n : Nat} (h0 : 0 < n) (h : n < 2 ^ 31) : absI (-nI n) = nI n := by
  unfold absI
  rw [if_pos, Int32.neg_neg]
  refine Int32.lt_iff_toInt_lt.mpr ?_
  rw [ti_neg (by rw [ti_nI h]; omega), ti_nI h]
  have : (0 : Int32).toInt = 0 := by decide
  omega
theorem absI_side {z : ZZ} (hw : WF z) {r s : Nat} (hr : r < nR z) (hs : s < nS z r) : absI (side z r s) = nI (sdN z r s) := by
  have h12 := wf_S12 hw hr
  unfold side sdN
  rw [pk_sub (show 1 ≤ nS z r by omega)]
  by_cases h : nS z r ≤ 2 * s + 1
  · rw [if_pos h, pk_sub (show nS z r - 1 ≤ 2 * s by omega), absI_n (by omega)]
    congr 1; omega
  · rw [if_neg h]
    have e : nI (2 * s) - nI (nS z r - 1) = -nI (nS z r - 1 - 2 * s) := by
      rw [← pk_sub (show 2 * s ≤ nS z r - 1 by omega), Int32.neg_sub]
    rw [e, absI_neg (by omega) (by omega)]
    congr 1; omega
theorem nsub_0 {a b : Nat} (ha : a < 2 ^ 30) (hb : b < 2 ^ 30) : nI a - nI b = 0 ↔ a = b := by
  constructor
  · intro h
    have h1 := pk_sub_toInt ha hb
    rw [h] at h1
    have : (0 : Int32).toInt = 0 := by decide
    omega
  · rintro rfl
    rw [pk_sub (Nat.le_refl _), Nat.sub_self]; rfl
theorem nsub_p {a b : Nat} (ha : a < 2 ^ 30) (hb : b < 2 ^ 30) : 0 < nI a - nI b ↔ b < a := by
  rw [Int32.lt_iff_toInt_lt, pk_sub_toInt ha hb]
  have : (0 : Int32).toInt = 0 := by decide
  omega
theorem ahead_rk {z : ZZ} (hw : WF z) {wy : ZZ} {r s r2 s2 : Nat} (hr : r < nR z) (hs : s < nS z r) (hr2 : r2 < nR z) (hs2 : s2 < nS z r2) : isAheadB z (layF z wy) r s r2 s2 = decide (rkN z r s < rkN z r2 s2) := by
  have a1 := wf_S12 hw hr
  have a2 := wf_S12 hw hr2
  have hR := wf_R10 hw
  have b1 := ways_b hw hr s
  have b2 := ways_b hw hr2 s2
  unfold isAheadB
  rw [layF_at hw wy hr hs, layF_at hw wy hr2 hs2]
  have c1 : sdN z r s < 12 := by unfold sdN; split <;> omega
  have c2 : sdN z r2 s2 < 12 := by unfold sdN; split <;> omega
  have e0 := nsub_0 (a := ways z r2 s2) (b := ways z r s) (by omega) (by omega)
  have ep := nsub_p (a := ways z r2 s2) (b := ways z r s) (by omega) (by omega)
  by_cases h : nI (ways z r2 s2) - nI (ways z r s) = 0 ∧ r = r2
  · obtain ⟨h1, rfl⟩ := h
    have hw2 : ways z r s2 = ways z r s := e0.mp h1
    rw [if_pos ⟨h1, rfl⟩, absI_side hw hr hs, absI_side hw hr hs2]
    have f0 := nsub_0 (a := sdN z r s2) (b := sdN z r s) (by omega) (by omega)
    have fp := nsub_p (a := sdN z r s2) (b := sdN z r s) (by omega) (by omega)
    unfold rkN
    rw [hw2]
    by_cases g : 0 < nI (sdN z r s2) - nI (sdN z r s)
    · rw [if_pos g]
      have := fp.mp g
      exact (decide_eq_true (by omega)).symm
    · rw [if_neg g]
      have g' : ¬ sdN z r s < sdN z r s2 := fun q => g (fp.mpr q)
      by_cases k : nI (sdN z r s2) - nI (sdN z r s) = 0
      · have k' := f0.mp k
        rw [decide_eq_true k, Bool.true_and]
        congr 1; apply propext; omega
      · have k' : ¬ sdN z r s2 = sdN z r s := fun q => k (f0.mpr q)
        rw [decide_eq_false k, Bool.false_and]
        exact (decide_eq_false (by omega)).symm
  · rw [if_neg h]
    have h' : ¬ (ways z r2 s2 = ways z r s ∧ r = r2) := fun q => h ⟨e0.mpr q.1, q.2⟩
    unfold rkN
    by_cases g : 0 < nI (ways z r2 s2) - nI (ways z r s)
    · rw [if_pos g]
      have := ep.mp g
      exact (decide_eq_true (by omega)).symm
    · rw [if_neg g]
      have g' : ¬ ways z r s < ways z r2 s2 := fun q => g (ep.mpr q)
      by_cases k : nI (ways z r2 s2) - nI (ways z r s) = 0
      · have k' := e0.mp k
        rw [decide_eq_true k, Bool.true_and]
        congr 1; apply propext; omega
      · have k' : ¬ ways z r2 s2 = ways z r s := fun q => k (e0.mpr q)
        rw [decide_eq_false k, Bool.false_and]
        exact (decide_eq_false (by omega)).symm
def plcR (z : ZZ) (r s : Nat) (t : Bool) (o : Nat) : Nat := sumN (nS z o) fun k => b2 ((!t || !tk z o k) && decide (rkN z o k < rkN z r s))
def plc (z : ZZ) (r s : Nat) (t : Bool) : Nat := sumN (nR z) fun o => plcR z r s t o
theorem sAh_plc {z : ZZ} (hw : WF z) (wy : ZZ) {r s : Nat} (hr : r < nR z) (hs : s < nS z r) (t : Bool) : sAh z (layF z wy) r s t = plc z r s t := by
  unfold sAh plc
  refine sumN_c fun o ho => ?_
  unfold sAhR plcR
  refine sumN_c fun k hk => ?_
  rw [ahead_rk hw ho hk hr hs]
def bwS (z : ZZ) (pl : Int32) (r w : Nat) (x : Int32) : Int32 := if (!tk z r w && decide (nI (plc z r w true) = pl)) = true then nI (100 * r + w) else x
def bestW (z : ZZ) (pl : Int32) : Int32 := itN (nR z) (fun r x => itN (nS z r) (bwS z pl r) x) (-1)
theorem best_W {z : ZZ} (hw : WF z) (wy : ZZ) (pl : Int32) : bestI z (layF z wy) pl = bestW z pl := by
  unfold bestI bestW
  refine itN_c fun r x hr => ?_
  unfold bsR
  refine itN_c fun w y hs => ?_
  unfold bsS bwS
  rw [sAh_plc hw wy hr hs]
theorem rk_inj {z : ZZ} (hw : WF z) {r s r2 s2 : Nat} (hr : r < nR z) (hs : s < nS z r) (hr2 : r2 < nR z) (hs2 : s2 < nS z r2) (h : rkN z r s = rkN z r2 s2) : r = r2 ∧ s = s2 := by
  have a1 := wf_S12 hw hr
  have a2 := wf_S12 hw hr2
  have hR := wf_R10 hw
  have c1 : sdN z r s < 12 := by unfold sdN; split <;> omega
  have c2 : sdN z r2 s2 < 12 := by unfold sdN; split <;> omega
  unfold rkN at h
  omega
theorem plc_lt {z : ZZ} {r s r2 s2 : Nat} (hr : r < nR z) (hs : s < nS z r) (hf : tk z r s = false) (h : rkN z r s < rkN z r2 s2) : plc z r s true < plc z r2 s2 true := by
  have A : ∀ o k, b2 ((!true || !tk z o k) && decide (rkN z o k < rkN z r s)) ≤ b2 ((!true || !tk z o k) && decide (rkN z o k < rkN z r2 s2)) := by
    intro o k
    by_cases g : rkN z o k < rkN z r s
    · rw [decide_eq_true g, decide_eq_true (show rkN z o k < rkN z r2 s2 by omega)]; exact Nat.le_refl _
    · rw [decide_eq_false g, Bool.and_false]; exact Nat.zero_le _
  unfold plc
  refine sumN_lt (fun o _ => ?_) hr ?_
  · unfold plcR; exact sumN_le fun k _ => A o k
  · unfold plcR
    refine sumN_lt (fun k _ => A r k) hs ?_
    rw [hf, decide_eq_false (Nat.lt_irrefl _), decide_eq_true h]; decide
theorem plc_b {z : ZZ} (hw : WF z) (r s : Nat) (t : Bool) : plc z r s t ≤ 120 := by
  have hR := wf_R10 hw
  have h : plc z r s t ≤ nR z * 12 := sumN_b fun o ho => by
    have h2 := wf_S12 hw ho
    have h3 : plcR z r s t o ≤ nS z o * 1 := sumN_b fun w _ => b2_b _
    omega
  omega
theorem it_last {P : Nat → Prop} {n : Nat} {f : Nat → Int32 → Int32} {x v : Int32} (hx : ∀ k y, k < n → ¬ P k → f k y = y) (hv : ∀ k y, k < n → P k → f k y = v) (h : x = v ∨ ∃ k, k < n ∧ P k) : itN n f x = v := by
  induction n with
  | zero => rcases h with h | ⟨k, hk, -⟩
            · exact h
            · omega
  | succ n ih =>
    rw [itN_s]
    by_cases hP : P n
    · exact hv n _ (by omega) hP
    · rw [hx n _ (by omega) hP]
      refine ih (fun k y hk => hx k y (by omega)) (fun k y hk => hv k y (by omega)) ?_
      rcases h with h | ⟨k, hk, hPk⟩
      · exact Or.inl h
      · refine Or.inr ⟨k, ?_, hPk⟩
        rcases Nat.lt_or_ge k n with q | q
        · exact q
        · obtain rfl : k = n := by omega
          exact absurd hPk hP
theorem best_found {z : ZZ} (hw : WF z) {pl : Int32} {r s : Nat} (hr : r < nR z) (hs : s < nS z r) (hf : tk z r s = false) (hp : nI (plc z r s true) = pl) : bestW z pl = nI (100 * r + s) := by
  have U : ∀ o k, o < nR z → k < nS z o → tk z o k = false → nI (plc z o k true) = pl → o = r ∧ k = s := by
    intro o k ho hk hfk hpk
    have h1 : plc z o k true = plc z r s true := (nI_eq (by have := plc_b hw o k true; omega) (by have := plc_b hw r s true; omega)).mp (hpk.trans hp.symm)
    rcases Nat.lt_trichotomy (rkN z o k) (rkN z r s) with g | g | g
    · have := plc_lt ho hk hfk g; omega
    · exact rk_inj hw ho hk hr hs g
    · have := plc_lt hr hs hf g; omega
  unfold bestW
  refine it_last (P := fun k => k = r) (fun k y hk hP => ?_) (fun k y hk hP => ?_) (Or.inr ⟨r, hr, rfl⟩)
  · have : ∀ n, n ≤ nS z k → itN n (bwS z pl k) y = y := by
      intro n
      induction n with
      | zero => intro _; rfl
      | succ n ih =>
        intro hn
        rw [itN_s, ih (by omega)]
        unfold bwS
        rw [if_neg]
        intro q
        rw [Bool.and_eq_true, Bool.not_eq_true', decide_eq_true_eq] at q
        exact hP (U k n hk (by omega) q.1 q.2).1
    exact this _ (Nat.le_refl _)
  · subst hP
    refine it_last (P := fun w => w = s) (fun w y hw2 hP2 => ?_) (fun w y hw2 hP2 => ?_) (Or.inr ⟨s, hs, rfl⟩)
    · unfold bwS
      rw [if_neg]
      intro q
      rw [Bool.and_eq_true, Bool.not_eq_true', decide_eq_true_eq] at q
      exact hP2 (U k w hk hw2 q.1 q.2).2
    · subst hP2
      unfold bwS
      rw [if_pos]
      rw [Bool.and_eq_true, Bool.not_eq_true', decide_eq_true_eq]
      exact ⟨hf, hp⟩
theorem best_none {z : ZZ} {pl : Int32} (h : ∀ r s, r < nR z → s < nS z r → (!tk z r s && decide (nI (plc z r s true) = pl)) = false) : bestW z pl = -1 := by
  unfold bestW
  have : ∀ n, n ≤ nR z → itN n (fun r x => itN (nS z r) (bwS z pl r) x) (-1) = -1 := by
    intro n
    induction n with
    | zero => intro _; rfl
    | succ n ih =>
      intro hn
      rw [itN_s, ih (by omega)]
      have : ∀ k, k ≤ nS z n → itN k (bwS z pl n) (-1) = -1 := by
        intro k
        induction k with
        | zero => intro _; rfl
        | succ k ih2 =>
          intro hk
          rw [itN_s, ih2 (by omega)]
          unfold bwS
          rw [h n k (by omega) (by omega)]; rfl
      exact this _ (Nat.le_refl _)
  exact this _ (Nat.le_refl _)
end
section
/-! who is in the way; the worst column; a party's place -/
theorem it_stop {α : Type} {n : Nat} {f : Nat → α → α} {x v : α} {k : Nat} (hk : k < n) (h : ∀ y, f k y = v) (h2 : ∀ j y, k < j → j < n → f j y = y) : itN n f x = v := by
  induction n with
  | zero => omega
  | succ n ih =>
    rw [itN_s]
    rcases Nat.lt_or_ge k n with q | q
    · rw [ih q (fun j y a b => h2 j y a (by omega))]; exact h2 n _ q (by omega)
    · obtain rfl : k = n := by omega
      exact h _
theorem it_id {α : Type} {n : Nat} {f : Nat → α → α} {x : α} (h : ∀ j y, j < n → f j y = y) : itN n f x = x := by
  induction n with
  | zero => rfl
  | succ n ih => rw [itN_s, ih (fun j y a => h j y (by omega))]; exact h n _ (by omega)
def inWayB (z : ZZ) (r s a w : Nat) : Bool := tk z a w && blk z a w r s
theorem bkR_id {z : ZZ} {r s a : Nat} (h : ∀ w, w < nS z a → inWayB z r s a w = false) (x : Int32) : bkR z r s a x = x := by
  unfold bkR
  refine it_id fun j y hj => ?_
  unfold bkS
  have := h (nS z a - 1 - j) (by omega)
  unfold inWayB at this
  rw [this]; rfl
theorem bk_found {z : ZZ} {r s a w : Nat} (ha : a < r) (hw : w < nS z a) (hp : inWayB z r s a w = true) (h1 : ∀ k, k < w → inWayB z r s a k = false) (h2 : ∀ o k, a < o → o < r → k < nS z o → inWayB z r s o k = false) : blockerI z r s = nI (100 * a + w) := by
  unfold blockerI
  refine it_stop ha (fun y => ?_) (fun o y q1 q2 => bkR_id (fun k hk => h2 o k q1 q2 hk) y)
  unfold bkR
  refine it_stop (k := nS z a - 1 - w) (by omega) (fun y => ?_) (fun j y q1 q2 => ?_)
  · unfold bkS
    rw [show nS z a - 1 - (nS z a - 1 - w) = w by omega]
    unfold inWayB at hp
    rw [if_pos hp]
  · unfold bkS
    have := h1 (nS z a - 1 - j) (by omega)
    unfold inWayB at this
    rw [this]; rfl
theorem bk_none {z : ZZ} {r s : Nat} (h : ∀ o k, o < r → k < nS z o → inWayB z r s o k = false) : blockerI z r s = -1 := by
  unfold blockerI
  exact it_id fun o y ho => bkR_id (fun k hk => h o k ho hk) y
theorem colsN_W {z : ZZ} (hw : WF z) (r s : Nat) : colsN z r s = colsW z r s (-1) := by
  unfold colsN colsW
  refine sumN_c fun k hk => ?_
  have := wf_C4 hw
  rw [decide_eq_false (nI_ne_m1 (show k < 2 ^ 31 by omega))]; rfl
def keptR (z : ZZ) (c r : Nat) : Nat := sumN (nS z r) fun w => b2 (decide (ways z r w = 1) && cblk z c r w)
def kept (z : ZZ) (c : Nat) : Nat := sumN (nR z) fun r => keptR z c r
theorem sum_del {n c : Nat} {f : Nat → Nat} (hc : c < n) : sumN n f = sumN n (fun k => if k = c then 0 else f k) + f c := by
  induction n with
  | zero => omega
  | succ n ih =>
    rw [sumN_s, sumN_s]
    rcases Nat.lt_or_ge c n with q | q
    · rw [ih q, if_neg (show ¬ n = c by omega)]; omega
    · obtain rfl : c = n := by omega
      rw [if_pos rfl]
      have : sumN c f = sumN c (fun k => if k = c then 0 else f k) := sumN_c fun k hk => by rw [if_neg (by omega)]
      omega
theorem cols_del {z : ZZ} (hw : WF z) (r s : Nat) {c : Nat} (hc : c < nC z) : colsW z r s (-1) = colsW z r s (nI c) + b2 (cblk z c r s) := by
  have h4 := wf_C4 hw
  rw [← colsN_W hw]
  unfold colsN
  rw [sum_del hc]
  congr 1
  unfold colsW
  refine sumN_c fun k hk => ?_
  by_cases h : k = c
  · subst h; rw [if_pos rfl, decide_eq_true rfl]; rfl
  · rw [if_neg h, decide_eq_false (fun q => h ((nI_eq (show k < 2 ^ 31 by omega) (show c < 2 ^ 31 by omega)).mp q))]; rfl
theorem seeWo_kept {z : ZZ} (hw : WF z) {c : Nat} (hc : c < nC z) : seeWo z (nI c) = seeing z false + kept z c := by
  unfold seeWo seeing kept
  rw [← sumN_add]
  refine sumN_c fun r hr => ?_
  unfold seeWoR seeIn keptR
  rw [← sumN_add]
  refine sumN_c fun w hs => ?_
  have h := cols_del hw r w hc
  unfold seesB ways
  rw [h]
  generalize people z r w = P
  generalize colsW z r w (nI c) = C
  cases cblk z c r w with
  | true =>
    have e : b2 true = 1 := rfl
    rw [e, Bool.and_true]
    by_cases q : P + C = 0
    · rw [decide_eq_true q, decide_eq_false (show ¬ P + (C + 1) = 0 by omega), decide_eq_true (show P + (C + 1) = 1 by omega)]; rfl
    · rw [decide_eq_false q, decide_eq_false (show ¬ P + (C + 1) = 0 by omega), decide_eq_false (show ¬ P + (C + 1) = 1 by omega)]; rfl
  | false =>
    have e : b2 false = 0 := rfl
    rw [e, Bool.and_false, Nat.add_zero]
    by_cases q : P + C = 0
    · rw [decide_eq_true q]; rfl
    · rw [decide_eq_false q]; rfl
def ctS (z : ZZ) (k : Nat) (p : Int32 × Int32) : Int32 × Int32 := if p.1 = -1 then (nI k, nI (kept z k)) else if nI (kept z k) ≤ p.2 then p else (nI k, nI (kept z k))
theorem kept_b {z : ZZ} (hw : WF z) (c : Nat) : kept z c ≤ 120 := by
  have hR := wf_R10 hw
  have h : kept z c ≤ nR z * 12 := sumN_b fun o ho => by
    have h2 := wf_S12 hw ho
    have h3 : keptR z c o ≤ nS z o * 1 := sumN_b fun w _ => b2_b _
    omega
  omega
theorem wo_ct {z : ZZ} (hw : WF z) {k : Nat} (hk : k ≤ nC z) : (k = 0 ∧ itN k (woS z) (-1, -1) = (-1, -1) ∧ itN k (ctS z) (-1, nI 0) = (-1, nI 0)) ∨ ∃ j M, j < 2 ^ 31 ∧ M ≤ 120 ∧ itN k (woS z) (-1, -1) = (nI j, nI (seeing z false + M)) ∧ itN k (ctS z) (-1, nI 0) = (nI j, nI M) := by
  have hsb := seeing_b hw false
  have hC := wf_C4 hw
  induction k with
  | zero => exact Or.inl ⟨rfl, rfl, rfl⟩
  | succ k ih =>
    have hkb := kept_b hw k
    have e := seeWo_kept hw (show k < nC z by omega)
    rw [itN_s, itN_s]
    rcases ih (by omega) with ⟨-, h1, h2⟩ | ⟨j, M, hj, hM, h1, h2⟩
    · refine Or.inr ⟨k, kept z k, by omega, hkb, ?_, ?_⟩
      · rw [h1]; unfold woS
        rw [if_neg, e]
        intro q
        have h3 := Int32.le_iff_toInt_le.mp q
        rw [e, ti_nI (by omega)] at h3
        have : (-1 : Int32).toInt = -1 := by decide
        simp only at h3
        omega
      · rw [h2]; unfold ctS; rw [if_pos rfl]
    · rw [h1, h2]
      unfold woS ctS
      simp only
      rw [if_neg (nI_ne_m1 hj), e]
      by_cases g : kept z k ≤ M
      · rw [if_pos ((nI_leI (by omega) (by omega)).mpr (by omega)), if_pos ((nI_leI (by omega) (by omega)).mpr g)]
        exact Or.inr ⟨j, M, hj, hM, rfl, rfl⟩
      · rw [if_neg (fun q => g (by have := (nI_leI (by omega) (by omega)).mp q; omega)), if_neg (fun q => g ((nI_leI (by omega) (by omega)).mp q))]
        exact Or.inr ⟨k, kept z k, by omega, hkb, rfl, rfl⟩
theorem worst_ct {z : ZZ} (hw : WF z) : (itN (nC z) (ctS z) (-1, nI 0)).1 = worstI z := by
  unfold worstI
  rcases wo_ct hw (Nat.le_refl _) with ⟨-, h1, h2⟩ | ⟨j, M, -, -, h1, h2⟩
  · rw [h1, h2]
  · rw [h1, h2]
def pcS (z : ZZ) (m r f : Nat) (p : Int32 × Int32) : Int32 × Int32 := if freeB z r f m = false then p else if p.1 = -1 then (nI (100 * r + f), nI (sumN m fun j => ways z r (f + j))) else if p.2 ≤ nI (sumN m fun j => ways z r (f + j)) then p else (nI (100 * r + f), nI (sumN m fun j => ways z r (f + j)))
theorem pc_pf {z : ZZ} (hw : WF z) {m r f : Nat} (hr : r < nR z) (hf : f + m ≤ nS z r) (p : Int32 × Int32) : pcS z m r f p = pfS z m r f p := by
  have h12 := wf_S12 hw hr
  unfold pcS pfS
  rw [freeB_all z r f (show f + m ≤ 12 by omega)]
  unfold inWayOfI
  cases h : allN m (fun j => !tk z r (f + j)) with
  | false => rw [if_pos rfl, if_neg (show ¬ (false = true) by decide), if_pos rfl]
  | true =>
    have hb : sumN m (fun j => ways z r (f + j)) ≤ m * 124 := sumN_b fun j _ => ways_b hw hr (f + j)
    rw [if_neg (by decide), if_pos rfl, if_neg (nI_ne_m1 (by omega))]
def pcR (z : ZZ) (m r : Nat) (p : Int32 × Int32) : Int32 × Int32 := itN (nS z r + 1 - m) (pcS z m r) p
theorem place_pc {z : ZZ} (hw : WF z) {m : Nat} (hm : 1 ≤ m) : (itN (nR z) (pcR z m) (-1, nI 0)).1 = placeForI z m := by
  unfold placeForI
  congr 1
  refine itN_c fun r p hr => ?_
  unfold pcR pfR
  refine itN_c fun f q hf => ?_
  exact pc_pf hw hr (by omega) q
end
section
/-! the survey's arrays -/
def lkS (g : Nat → Nat → Nat) (r s : Nat) (f : ZZ) : ZZ := upd f (r * 12 + s) (nI (g r s))
def lkR (g : Nat → Nat → Nat) (z : ZZ) (r : Nat) (f : ZZ) : ZZ := itN (nS z r) (lkS g r) f
def lkF (g : Nat → Nat → Nat) (z : ZZ) (f : ZZ) : ZZ := itN (nR z) (lkR g z) f
theorem lkR_at (g : Nat → Nat → Nat) (f : ZZ) (r n j : Nat) : itN n (lkS g r) f j = if r * 12 ≤ j ∧ j < r * 12 + n then nI (g r (j - r * 12)) else f j := by
  induction n with
  | zero => rw [if_neg (by omega)]; rfl
  | succ n ih =>
    rw [itN_s]
    unfold lkS
    by_cases h : j = r * 12 + n
    · subst h
      rw [upd_eq, if_pos (by omega), show r * 12 + n - r * 12 = n by omega]
    · rw [upd_ne h]
      have e : itN n (lkS g r) f j = _ := ih
      unfold lkS at e
      rw [e]
      by_cases q : r * 12 ≤ j ∧ j < r * 12 + n
      · rw [if_pos q, if_pos (by omega)]
      · rw [if_neg q, if_neg (by omega)]
theorem lkF_at {z : ZZ} (hw : WF z) (g : Nat → Nat → Nat) (f : ZZ) {r s : Nat} (hr : r < nR z) (hs : s < nS z r) : lkF g z f (r * 12 + s) = nI (g r s) := by
  have h12 := wf_S12 hw hr
  have K : ∀ k, k ≤ nR z → r < k → itN k (lkR g z) f (r * 12 + s) = nI (g r s) := by
    intro k
    induction k with
    | zero => intro _ h; omega
    | succ k ih =>
      intro hk hrk
      rw [itN_s]
      unfold lkR
      rw [lkR_at]
      have h2 := wf_S12 hw (show k < nR z by omega)
      by_cases q : k = r
      · subst q
        rw [if_pos (by omega), show k * 12 + s - k * 12 = s by omega]
      · rw [if_neg (by omega)]
        exact ih (by omega) (by omega)
  exact K (nR z) (Nat.le_refl _) hr
def LKR (z pe cn rk : ZZ) : Prop := ∀ r s, r < nR z → s < nS z r → pe (r * 12 + s) = nI (people z r s) ∧ cn (r * 12 + s) = nI (colsW z r s (-1)) ∧ rk (r * 12 + s) = nI (rkN z r s)
theorem lkr_F {z : ZZ} (hw : WF z) (pe cn rk : ZZ) : LKR z (lkF (people z) z pe) (lkF (fun r s => colsW z r s (-1)) z cn) (lkF (rkN z) z rk) :=
  fun _ _ hr hs => ⟨lkF_at hw _ _ hr hs, lkF_at hw _ _ hr hs, lkF_at hw _ _ hr hs⟩
theorem rk_b {z : ZZ} (hw : WF z) {r s : Nat} (hr : r < nR z) (hs : s < nS z r) : rkN z r s ≤ 200000 := by
  have a1 := wf_S12 hw hr
  have hR := wf_R10 hw
  have hb := ways_b hw hr s
  have c1 : sdN z r s < 12 := by unfold sdN; split <;> omega
  unfold rkN; omega
def lkP (lk : Bool) (g : Nat → Nat → Nat) (z f : ZZ) : ZZ := if lk = true then f else lkF g z f
theorem lkr_P {z : ZZ} (hw : WF z) {lk : Bool} {pe cn rk : ZZ} (h : lk = true → LKR z pe cn rk) : LKR z (lkP lk (people z) z pe) (lkP lk (fun r s => colsW z r s (-1)) z cn) (lkP lk (rkN z) z rk) := by
  cases lk with
  | true => exact h rfl
  | false => exact lkr_F hw pe cn rk
theorem kx_narb (b : Bool) : narrow .boolean (.int (bI b)) = .int (bI b) := by cases b <;> rfl
theorem kx_fitb (b : Bool) : fits .boolean (.int (bI b)) = true := by cases b <;> rfl
abbrev SVW (v b : Nat → Nat) (cI : ClassId) (z : ZZ) (lk : Int32) (pe cn rk : ZZ) : va_W := HW b cI z ++ SW v (b 0) cI lk pe cn rk
theorem sv_c {v b : Nat → Nat} {cI : ClassId} {z : ZZ} {lk lk' : Int32} {pe pe' cn cn' rk rk' : ZZ} (h1 : lk = lk') (h2 : pe = pe') (h3 : cn = cn') (h4 : rk = rk') : (HW b cI z ++ SW v (b 0) cI lk pe cn rk : va_W) = HW b cI z ++ SW v (b 0) cI lk' pe' cn' rk' := by
  subst h1 h2 h3 h4; rfl
theorem max_le (x y : Int32) : (if x < y then y else x) = (if y ≤ x then x else y) := by
  by_cases h : x < y
  · rw [if_pos h, if_neg (Int32.not_le.mpr h)]
  · rw [if_neg h, if_pos (Int32.not_lt.mp h)]
end
section
/-- as Met.ofW, for a method of a class that has natives beside it -/
theorem kx_ofWF {l : Launch} {y : MethodName} {ws ws' : List Cond} {rm : Room} {Pc : Array Value → State → Prop} {Qc : Array Value → State → Outcome → State → Prop} {mc ms : Nat} {free : Addr → Prop} {cc : ByteArray} {maxL : Nat} {ret : Option FieldType}
    (hy : plainFor y = true) (hw : ws = Cond.code y cc maxL ret :: ws')
    (body : ∀ p e s m args below meth c s₁, BodyLoose p l y (headSpec ws rm) cc maxL ret e s m args below meth c s₁ → c.maxLocals = maxL → Pc args s →
      W p l e (headSpec ws rm).room s m args below meth c s.heap [] 0 0 (MQ below Qc args s mc ms free) (entryFrame m args maxL)) : Met l y ws rm Pc Qc mc ms free := by
  refine MetFree.of_bodySF (code := cc) (maxLocals := maxL) (ret := ret) hy ?_ ?_
  · intro args s m h hn
    obtain ⟨meth, c, h1, h2, h3, h4, h5, h6, -, -⟩ := Cond.code_spec hn (atoms_spec (ws := ws) h _ (by rw [hw]; exact List.mem_cons_self))
    exact ⟨meth, c, h1, h2, h3, h4, h5, h6⟩
  · intro p e s m args below meth c s₁ B hml hP _
    have hh0 : s₁.heap = s.heap := by rw [B.state]; rfl
    obtain ⟨t, a1, o, b1, b2, b3⟩ := body p e s m args below meth c s₁ B hml hP s₁ hh0 (Stand.of_body B)
    exact ⟨t, o, a1, b1, b2, ⟨b3.1, b3.2⟩⟩
end
section
/-! arrays that the class keeps for itself (static), read only; contracts that need them -/
def kZ (C n d : String) (ty : FieldType) (t N : Nat) (f : ZZ) (A : Nat → Prop) (U : State) (H : Heap) : Prop := va_Z C n d (.ref t) A U H ∧ va_T ty t N (fun j => .int (f j)) A U H
def lpA : ZZ := fun j => if j = 0 then nI 1 else if j = 1 then nI 0 else nI 1
def mpA : ZZ := fun j => if j = 0 then nI 999 else if j = 1 then nI 999 else nI 12
def epA : ZZ := fun j => if j = 0 then nI 94 else if j = 1 then nI 42 else nI 59
def lsA : ZZ := fun j => if j = 0 then nI 0 else if j = 1 then nI 1 else nI 0
def msA : ZZ := fun j => if j = 0 then nI 999 else if j = 1 then nI 300 else nI 100
def zZ (y : Nat → Nat) (A : Nat → Prop) (U : State) (H : Heap) : Prop :=
  kZ "HallSights" "LEAST_OF_SETTING" "[I" .int (y 3) 3 lsA A U H ∧ kZ "HallSights" "MOST_OF_SETTING" "[I" .int (y 4) 3 msA A U H
theorem kZ.moved {C n d : String} {ty : FieldType} {t N : Nat} {f : ZZ} {A : Nat → Prop} {u U : State} {H : Heap} (hvm : u.vm.Alike U.vm) (h : kZ C n d ty t N f A u H) : kZ C n d ty t N f A U H := ⟨va_Z.moved hvm h.1, va_T.moved hvm h.2⟩
theorem kZ.kept {C n d : String} {ty : FieldType} {t N : Nat} {f : ZZ} {A : Nat → Prop} {U : State} {H H1 : Heap} (h : kZ C n d ty t N f A U H) (hq : ∀ a : Nat, a < H.size → ¬ A a → H1[a]? = H[a]?) : kZ C n d ty t N f A U H1 := ⟨h.1.kept hq, h.2.kept hq⟩
theorem kZ.narrow {C n d : String} {ty : FieldType} {t N : Nat} {f : ZZ} {A B : Nat → Prop} {U : State} {H : Heap} (h : kZ C n d ty t N f A U H) (hAB : ∀ q, B q → A q) : kZ C n d ty t N f B U H := ⟨h.1.narrow hAB, h.2.narrow hAB⟩
theorem zZ.moved {y : Nat → Nat} {A : Nat → Prop} {u U : State} {H : Heap} (hvm : u.vm.Alike U.vm) (h : zZ y A u H) : zZ y A U H := ⟨h.1.moved hvm, h.2.moved hvm⟩
theorem zZ.kept {y : Nat → Nat} {A : Nat → Prop} {U : State} {H H1 : Heap} (h : zZ y A U H) (hq : ∀ a : Nat, a < H.size → ¬ A a → H1[a]? = H[a]?) : zZ y A U H1 := ⟨h.1.kept hq, h.2.kept hq⟩
theorem zZ.narrow {y : Nat → Nat} {A B : Nat → Prop} {U : State} {H : Heap} (h : zZ y A U H) (hAB : ∀ q, B q → A q) : zZ y B U H := ⟨h.1.narrow hAB, h.2.narrow hAB⟩
def kwz (y : Nat → Nat) (av : List Value) (D : va_G) (ws : va_W) (tys : List (ClassId × FieldType)) : Array Value → State → Prop := fun v U => kw av D ws tys v U ∧ zZ y (kA ws) U U.heap
theorem kwz_blind {y : Nat → Nat} {av : List Value} {D : va_G} {ws : va_W} {tys : List (ClassId × FieldType)} : FrameBlind (kwz y av D ws tys) := fun a U g mk q => ⟨kw_blind a U g mk q.1, zZ.moved (u := U) (U := U.calling g mk a) (Vm.Alike.refl U.vm) q.2⟩
section KS
variable {p : Program} {l : Launch} {e : Env} {R : Room} {s : State} {m : MethodId} {args : Array Value} {below : List Frame} {meth : Method} {c : Code} {H : Heap} {locs : List Loc} {cells slots : Nat} {Q : State → Prop}
variable {cc : ByteArray} {pc : Nat} {ls : Array Slot} {rest : List Value} {D : va_G} {ws : va_W} {tys : List (ClassId × FieldType)} {A : Nat → Prop}
variable {y : MethodName} {bytes : ByteArray} {maxL nL n index : Nat} {ret : Option FieldType} {wds : List Cond} {rm : Room} {Ts : List Cond} {own C : String} {b : Addr} {As st0 : List Value} {wc wr w1 : va_W} {tc : List (ClassId × FieldType)} {v : Option Value} {zy : Nat → Nat}
theorem kz_V (S : CallFix p m c cc nL s args Ts own) (hM : Met l y wds rm (kwz zy (.ref b :: As) D wc tc) (kq D wc w1 (.returned v)) 0 0 (kA wc)) (cw : CallW R s args own C index y bytes maxL ret wds rm 0 0 n) (hP : va_P D vwCl ws H) (hD : va_D A ws) (hK : va_K D vwCl tc s) (hS : va_S A s.heap H locs) (hZ : zZ zy A s s.heap) (isC isR : List Nat)
    (hC0 : isC.filterMap (fun i => ws[i]?) = wc) (hC : isC.map (fun i => ws[i]?) = wc.map some) (hR : isR.map (fun i => ws[i]?) = wr.map some) (hnC : va_nd isC = true) (hnR : va_nd isR = true) (hdis : ∀ i ∈ isR, i ∉ isC) (hr : ∃ cell : Cell, H[b]? = some cell ∧ cell.vm.isStatics = false ∧ s.vm.findClass C = some cell.cls)
    (hn : As.length = n) (hz : ls.size = nL) (hst : st0 = As.reverse ++ .ref b :: rest) (hW : (rest.map fun v => v.category).sum ≤ 8) (hdg : decode cc pc = .ok (.invokevirtual index, 3)) (hf : cells + 0 ≤ R.cells ∧ slots + 0 ≤ R.slots) (kk : ∀ (H1 : Heap) (locs1 : List Loc), va_P D vwCl (wr ++ w1) H1 → va_D A (wr ++ w1) → va_S A s.heap H1 locs1 → W p l e R s m args below meth c H1 locs1 cells slots Q (F0 m (pc + 3) ls (v.toList ++ rest))) : W p l e R s m args below meth c H locs cells slots Q (F0 m pc ls st0) := by
  have hZ1 : zZ zy (kA wc) s H := (hZ.kept (fun a ha hn => hS.2.1 a ha hn)).narrow (kA_sub hD isC hC)
  have hrun := va_runV (H := H) (below := below) (meth := meth) (e := e) (locs := locs) (cells := cells) (slots := slots) (g := F0 m pc ls st0) (rest := rest) S hM cw ⟨kwz_blind, hr, fun U hU hWm => ⟨⟨rfl, by rw [hU]; exact hP.sub isC hC0, va_K.moved hWm.alike hK, (hD.sub isC hnC hC).weaken (fun _ _ _ _ => trivial)⟩, by rw [hU]; exact hZ1.moved hWm.alike⟩⟩ rfl hn hz hst (lv_room hW) hdg hf
  intro T hT X
  obtain ⟨v', st₀, t, T', L, h0, X', hL, e1, -, ⟨hv, hP1, hD1, hF1, hF2⟩, st⟩ := hrun T hT X
  cases hv
  rw [h0] at hF1 hF2
  obtain ⟨g1, g2⟩ := kj hP hD isC isR hC hR hnR hdis hF2 hP1 hD1
  obtain ⟨t2, a1, b1⟩ := kk t.heap _ g1 g2 (kS hS (kA_sub hD isC hC) hF1 hF2 hL) T' e1 X'
  exact ⟨t2, st t2 a1, b1⟩
theorem kx_ti (hexec : p.tables.exec = Jvm.exec) (hb : c.code = cc) {t N : Nat} {f : ZZ} (hT : va_T .int t N (fun j => .int (f j)) A s s.heap) (hS : va_S A s.heap H locs) {x : Nat} (h : x < N) (hN : N < 2 ^ 31) (hdg : decode cc pc = .ok (.iaload, 1))
    (kk : W p l e R s m args below meth c H locs cells slots Q (F0 m (pc + 1) ls (.int (f x) :: rest))) : W p l e R s m args below meth c H locs cells slots Q (F0 m pc ls (.int (nI x) :: .ref t :: rest)) :=
  va_ti hexec hb hT hS (vp_in_nI h hN) (v := .int (f x)) (by show Value.int (f (nI x).toNatClampNeg) = _; rw [nI_clamp (show x < 2 ^ 31 by omega)]) hdg kk
theorem kx_tc (hexec : p.tables.exec = Jvm.exec) (hb : c.code = cc) {t N : Nat} {f : ZZ} (hT : va_T .char t N (fun j => .int (f j)) A s s.heap) (hS : va_S A s.heap H locs) {x : Nat} (h : x < N) (hN : N < 2 ^ 31) (hdg : decode cc pc = .ok (.caload, 1))
    (kk : W p l e R s m args below meth c H locs cells slots Q (F0 m (pc + 1) ls (.int (f x) :: rest))) : W p l e R s m args below meth c H locs cells slots Q (F0 m pc ls (.int (nI x) :: .ref t :: rest)) :=
  va_tc hexec hb hT hS (vp_in_nI h hN) (v := .int (f x)) (by show Value.int (f (nI x).toNatClampNeg) = _; rw [nI_clamp (show x < 2 ^ 31 by omega)]) hdg kk
end KS
/-- the buffer's reader, as the class keeps it: the number that is read, whether it has begun, the numbers -/
abbrev CS : Type := Nat × Bool × ZZ
def isDg (c : Int32) : Bool := !decide (c < nI 48) && !decide (nI 57 < c)
def stepC (p : CS) (c : Int32) : CS := if isDg c = true then (if p.2.1 = false then (p.1, true, upd p.2.2 p.1 (c - nI 48)) else (p.1, true, upd p.2.2 p.1 (p.2.2 p.1 * nI 10 + (c - nI 48)))) else (if (p.2.1 && decide (c = epA (p.1 % 3))) = true then (p.1 + 1, false, p.2.2) else p)
def okC (p : CS) (c : Int32) : Bool := if isDg c = true then (if p.2.1 = false then !decide ((c - nI 48) < lpA (p.1 % 3)) else (!decide (p.2.2 p.1 ≤ 0) && !decide (mpA (p.1 % 3) < p.2.2 p.1 * nI 10 + (c - nI 48)))) else (p.2.1 && decide (c = epA (p.1 % 3)))
def dgF1 (b : Bool) (f : ZZ) (L : Nat) (d : Int32) : ZZ := if b = false then upd f L d else upd f L (f L * nI 10 + d)
def dgOk (b : Bool) (f : ZZ) (L : Nat) (d : Int32) : Bool := if b = false then !decide (d < lpA (L % 3)) else (!decide (f L ≤ 0) && !decide (mpA (L % 3) < f L * nI 10 + d))
def enOk (b : Bool) (L : Nat) (c : Int32) : Bool := b && decide (c = epA (L % 3))
def runC (tx f : ZZ) (k : Nat) : CS := itN k (fun j p => stepC p (tx j)) (0, false, f)
theorem runC_s (tx f : ZZ) (k : Nat) : runC tx f (k + 1) = stepC (runC tx f k) (tx k) := rfl
def eC (tx f : ZZ) : Nat → Nat
  | 0 => 0
  | k + 1 => if eC tx f k = k ∧ okC (runC tx f k) (tx k) = true then k + 1 else eC tx f k
theorem eC_s (tx f : ZZ) (k : Nat) : eC tx f (k + 1) = if eC tx f k = k ∧ okC (runC tx f k) (tx k) = true then k + 1 else eC tx f k := rfl
theorem eC_le (tx f : ZZ) (k : Nat) : eC tx f k ≤ k := by
  induction k with
  | zero => exact Nat.le_refl _
  | succ k ih => rw [eC_s]; split <;> omega
theorem eC_stop {tx f : ZZ} {k n : Nat} (h : eC tx f k = k) (hk : k < n) (hb : okC (runC tx f k) (tx k) = false) : eC tx f n = k := by
  induction n with
  | zero => omega
  | succ n ih =>
    rw [eC_s]
    rcases Nat.lt_or_ge k n with q | q
    · rw [ih q, if_neg (by omega)]
    · obtain rfl : k = n := by omega
      rw [if_neg (by rw [hb]; simp), h]
def finC (tx f : ZZ) (n : Nat) : CS := if eC tx f n = n then runC tx f n else stepC (runC tx f (eC tx f n)) (tx (eC tx f n))
theorem finC_a {tx f : ZZ} {n : Nat} (h : eC tx f n = n) : finC tx f n = runC tx f n := by unfold finC; rw [if_pos h]
theorem finC_b {tx f : ZZ} {k n : Nat} (h : eC tx f k = k) (hk : k < n) (hb : okC (runC tx f k) (tx k) = false) : finC tx f n = stepC (runC tx f k) (tx k) := by
  have h1 := eC_stop h hk hb
  unfold finC; rw [if_neg (by omega), h1]
theorem stepC_1 (p : CS) (c : Int32) : (stepC p c).1 ≤ p.1 + 1 := by
  unfold stepC
  by_cases h : isDg c = true
  · rw [if_pos h]
    by_cases h2 : p.2.1 = false
    · rw [if_pos h2]; exact Nat.le_succ _
    · rw [if_neg h2]; exact Nat.le_succ _
  · rw [if_neg h]
    by_cases h2 : (p.2.1 && decide (c = epA (p.1 % 3))) = true
    · rw [if_pos h2]; exact Nat.le_refl _
    · rw [if_neg h2]; exact Nat.le_succ _
theorem runC_1 (tx f : ZZ) (k : Nat) : (runC tx f k).1 ≤ k := by
  induction k with
  | zero => exact Nat.le_refl _
  | succ k ih => rw [runC_s]; have := stepC_1 (runC tx f k) (tx k); omega
abbrev TW (t : Nat → Nat) (cC cI : ClassId) (ts : ZZ) (tl : Int32) (tn : ZZ) (tt tb : Int32) : va_W := [(t 0, .inr (2, [.ref (t 1), .int tl, .ref (t 2), .int tt, .int tb])), (t 1, .inl (cC, 60, .inl ts)), (t 2, .inl (cI, 61, .inl tn))]
theorem tw_c {t : Nat → Nat} {cC cI : ClassId} {ts ts' : ZZ} {tl tl' : Int32} {tn tn' : ZZ} {tt tt' tb tb' : Int32} (h1 : ts = ts') (h2 : tl = tl') (h3 : tn = tn') (h4 : tt = tt') (h5 : tb = tb') : TW t cC cI ts tl tn tt tb = TW t cC cI ts' tl' tn' tt' tb' := by subst h1 h2 h3 h4 h5; rfl
theorem kx_castH {x : Nat} (h : x < 65536) : vp_nar .char (nI x) = nI x := by
  unfold vp_nar
  rw [(pk_charN h).1]
section KC
variable {p : Program} {l : Launch} {e : Env} {R : Room} {s : State} {m : MethodId} {args : Array Value} {below : List Frame} {meth : Method} {c : Code} {H : Heap} {locs : List Loc} {cells slots : Nat} {Q : State → Prop}
variable {cc : ByteArray} {pc : Nat} {ls : Array Slot} {rest : List Value} {D : va_G} {cl : List vw_C} {ws : va_W} {tys : List (ClassId × FieldType)} {A : Nat → Prop} {H0 : Heap} {q : Addr}
theorem kx_cast (hexec : p.tables.exec = Jvm.exec) (hb : c.code = cc) (hK : va_K D cl tys s) (hP : va_P D cl ws H) (hD : va_D A ws) (hS : va_S A H0 H locs) (q0 t0 : Nat) {cA : ClassId} {n : Nat} {f : Nat → Int32} (ha : ws[q0]? = some (q, .inl (cA, n, .inl f))) (ht : tys[t0]? = some (cA, .char)) {x v : Nat} (h : x < n) (hn : n < 2 ^ 31) (hv : v < 65536) (hdg : decode cc pc = .ok (.castore, 1))
    (kk : ∀ (H1 : Heap) (locs1 : List Loc), va_P D cl (ws.set q0 (q, .inl (cA, n, .inl (upd f x (nI v))))) H1 → va_D A (ws.set q0 (q, .inl (cA, n, .inl (upd f x (nI v))))) → va_S A H0 H1 locs1 → W p l e R s m args below meth c H1 locs1 cells slots Q (F0 m (pc + 1) ls rest)) : W p l e R s m args below meth c H locs cells slots Q (F0 m pc ls (.int (nI v) :: .int (nI x) :: .ref q :: rest)) :=
  va_cast hexec hb hK hP hD hS q0 t0 ha ht (vp_in_nI h hn) hdg (by rw [nI_clamp (show x < 2 ^ 31 by omega), kx_castH hv]; exact kk)
end KC
theorem kx_i2c {x : Nat} (h : x < 65536) : ((nI x).toUInt32 % 65536).toInt32 = nI x := by
  rw [pk_char, pk_tn (by omega), Nat.mod_eq_of_lt h]
theorem stepC_d {p : CS} {c : Int32} (h : isDg c = true) : stepC p c = (p.1, true, dgF1 p.2.1 p.2.2 p.1 (c - nI 48)) := by
  unfold stepC dgF1
  rw [if_pos h]
  by_cases h2 : p.2.1 = false
  · rw [if_pos h2, if_pos h2]
  · rw [if_neg h2, if_neg h2]
theorem stepC_e {p : CS} {c : Int32} (h : isDg c = false) : stepC p c = ((if enOk p.2.1 p.1 c = true then p.1 + 1 else p.1), (if enOk p.2.1 p.1 c = true then false else p.2.1), p.2.2) := by
  unfold stepC enOk
  rw [if_neg (by rw [h]; decide)]
  by_cases h2 : (p.2.1 && decide (c = epA (p.1 % 3))) = true
  · rw [if_pos h2, if_pos h2, if_pos h2]
  · rw [if_neg h2, if_neg h2, if_neg h2]
theorem okC_d {p : CS} {c : Int32} (h : isDg c = true) : okC p c = dgOk p.2.1 p.2.2 p.1 (c - nI 48) := by
  unfold okC dgOk; rw [if_pos h]
theorem okC_e {p : CS} {c : Int32} (h : isDg c = false) : okC p c = enOk p.2.1 p.1 c := by
  unfold okC enOk; rw [if_neg (by rw [h]; decide)]
def cmpB (ts f : ZZ) (n : Nat) : Bool := decide (eC ts f n = n) && ((finC ts f n).2.1 && decide ((finC ts f n).1 % 3 = 2))
theorem finC_1 (ts f : ZZ) (n : Nat) : (finC ts f n).1 ≤ n + 1 := by
  unfold finC
  split
  · have := runC_1 ts f n; omega
  · have h1 := runC_1 ts f (eC ts f n)
    have h2 := stepC_1 (runC ts f (eC ts f n)) (ts (eC ts f n))
    have h3 := eC_le ts f n
    omega
end
section
/-! the saved halls -/
def rot {α : Type} (f : Nat → α) : Nat → α := fun i => if i = 5 then f 0 else f (i + 1)
abbrev KWz (h : Nat → Nat) (kb : Nat → Nat → Nat) (cI cH : ClassId) (n : Int32) (kf : Nat → Option Nat) (q0 q1 q2 q3 q4 q5 : ZZ) : va_W := [(h 0, .inr (1, [.ref (h 1), .int n])), (h 1, .inl (cH, 6, .inr (.inr (.inr (.inr kf)))))] ++ (HW (kb 0) cI q0 ++ (HW (kb 1) cI q1 ++ (HW (kb 2) cI q2 ++ (HW (kb 3) cI q3 ++ (HW (kb 4) cI q4 ++ HW (kb 5) cI q5)))))
abbrev KW (h : Nat → Nat) (kb : Nat → Nat → Nat) (cI cH : ClassId) (n : Int32) (q : Nat → ZZ) : va_W := KWz h kb cI cH n (fun i => some (kb i 0)) (q 0) (q 1) (q 2) (q 3) (q 4) (q 5)
def qset (q : Nat → ZZ) (n : Nat) (z : ZZ) : Nat → ZZ := fun i => if i = n then z else q i
def kbK (n : Nat) (kb : Nat → Nat → Nat) : Nat → Nat → Nat := if n = 6 then rot kb else kb
def qK (n : Nat) (q : Nat → ZZ) (z : ZZ) : Nat → ZZ := if n = 6 then qset (rot q) 5 z else qset q n z
def nK (n : Nat) : Nat := if n = 6 then 6 else n + 1
def zU (n : Nat) (q : Nat → ZZ) (z : ZZ) : ZZ := if n = 0 then z else q (n - 1)
section KH
variable {p : Program} {l : Launch} {e : Env} {R : Room} {s : State} {m : MethodId} {args : Array Value} {below : List Frame} {meth : Method} {c : Code} {H : Heap} {locs : List Loc} {cells slots : Nat} {Q : State → Prop}
variable {cc : ByteArray} {pc : Nat} {ls : Array Slot} {rest : List Value} {D : va_G} {cl : List vw_C} {ws : va_W} {tys : List (ClassId × FieldType)} {A : Nat → Prop} {H0 : Heap} {q : Addr}
theorem kx_aldq (hexec : p.tables.exec = Jvm.exec) (hb : c.code = cc) (hK : va_K D cl tys s) (hP : va_P D cl ws H) (q0 t0 : Nat) {cA : ClassId} {C : String} {n : Nat} {f : Nat → Option Nat} (ha : ws[q0]? = some (q, .inl (cA, n, .inr (.inr (.inr (.inr f)))))) (ht : tys[t0]? = some (cA, .object C)) {x v : Nat} (h : x < n) (hn : n < 2 ^ 31) (hf : f x = some v) (hdg : decode cc pc = .ok (.aaload, 1))
    (kk : W p l e R s m args below meth c H locs cells slots Q (F0 m (pc + 1) ls (.ref v :: rest))) : W p l e R s m args below meth c H locs cells slots Q (F0 m pc ls (.int (nI x) :: .ref q :: rest)) :=
  va_aldq hexec hb hK hP q0 t0 ha ht (vp_in_nI h hn) hdg (by rw [nI_clamp (show x < 2 ^ 31 by omega), hf]; exact kk)
theorem kx_astq (hexec : p.tables.exec = Jvm.exec) (hb : c.code = cc) (hK : va_K D cl tys s) (hP : va_P D cl ws H) (hD : va_D A ws) (hS : va_S A H0 H locs) (q0 t0 qk ci : Nat) {cA : ClassId} {r : vw_C} {n v : Nat} {vs : List Value} {f : Nat → Option Nat} (ha : ws[q0]? = some (q, .inl (cA, n, .inr (.inr (.inr (.inr f)))))) (ht : tys[t0]? = some (cA, .object r.1)) (hv : ws[qk]? = some (v, .inr (ci, vs))) (hc : cl[ci]? = some r) {x : Nat} (h : x < n) (hn : n < 2 ^ 31) (hdg : decode cc pc = .ok (.aastore, 1))
    (kk : ∀ (H1 : Heap) (locs1 : List Loc), va_P D cl (ws.set q0 (q, .inl (cA, n, .inr (.inr (.inr (.inr (va_up f x (some v)))))))) H1 → va_D A (ws.set q0 (q, .inl (cA, n, .inr (.inr (.inr (.inr (va_up f x (some v)))))))) → va_S A H0 H1 locs1 → W p l e R s m args below meth c H1 locs1 cells slots Q (F0 m (pc + 1) ls rest)) : W p l e R s m args below meth c H locs cells slots Q (F0 m pc ls (.ref v :: .int (nI x) :: .ref q :: rest)) :=
  va_astq hexec hb hK hP hD hS q0 t0 qk ci ha ht hv hc (vp_in_nI h hn) hdg (by rw [nI_clamp (show x < 2 ^ 31 by omega)]; exact kk)
end KH
theorem rot_kf (kb : Nat → Nat → Nat) : ∀ j, j < 6 → va_up (va_up (va_up (va_up (va_up (va_up (fun i => some (kb i 0)) 0 (some (kb 1 0))) 1 (some (kb 2 0))) 2 (some (kb 3 0))) 3 (some (kb 4 0))) 4 (some (kb 5 0))) 5 (some (kb 0 0)) j = (fun i => some (rot kb i 0)) j := by
  intro j hj
  rcases (show j = 0 ∨ j = 1 ∨ j = 2 ∨ j = 3 ∨ j = 4 ∨ j = 5 by omega) with rfl | rfl | rfl | rfl | rfl | rfl <;> rfl
theorem cell_extq {cA : ClassId} {n : Nat} {f g : Nat → Option Nat} (h : ∀ j, j < n → f j = g j) : vp_cell cA (n, .inr (.inr (.inr (.inr f)))) = vp_cell cA (n, .inr (.inr (.inr (.inr g)))) := by
  rw [vp_cell_q, vp_cell_q]
  unfold arrV
  congr 2
  funext j
  show va_rf (f j.val) = va_rf (g j.val)
  rw [h j.val j.isLt]
theorem arr_extq {D : va_G} {cl : List vw_C} {ws : va_W} {H : Heap} (hP : va_P D cl ws H) (i : Nat) {q : Nat} {cA : ClassId} {n : Nat} {f g : Nat → Option Nat} (hi : ws[i]? = some (q, .inl (cA, n, .inr (.inr (.inr (.inr f)))))) (h : ∀ j, j < n → f j = g j) : va_P D cl (ws.set i (q, .inl (cA, n, .inr (.inr (.inr (.inr g)))))) H := by
  intro k e hk
  have hl : i < ws.length := (List.getElem?_eq_some_iff.mp hi).1
  by_cases hki : k = i
  · subst hki
    rw [List.getElem?_set_self hl] at hk
    obtain rfl := Option.some.inj hk
    have h1 := hP k _ hi
    show H[q]? = some (vp_cell cA (n, .inr (.inr (.inr (.inr g)))))
    rw [← cell_extq h]; exact h1
  · rw [List.getElem?_set_ne (Ne.symm hki)] at hk
    exact hP k e hk
end
section
set_option maxRecDepth 20000 in
theorem ggX4_init_X3_init : GoodIn wsX4_init wsX3_init := goodIn_r _ [20, 21, 2, 3, 22, 23, 24, 25, 26, 27, 28, 29, 30, 31, 32, 33, 34, 35, 36, 37, 38, 39, 40, 70, 71, 72, 73, 74, 75, 76, 77, 78, 79, 53, 54, 55, 56, 57] (by decide +kernel) (by decide +kernel)
set_option maxRecDepth 20000 in
theorem gX4_init_X3_init_n9 : GoodIn wsX4_init (wsX3_init) := ggX4_init_X3_init
set_option maxRecDepth 20000 in
theorem ggX4_init_X1_init : GoodIn wsX4_init wsX1_init := goodIn_r _ [43, 44, 2, 3, 45, 46, 23, 24, 30, 31, 32, 26, 33, 34, 35, 36, 37, 38, 39, 40, 63, 64, 70, 71, 72, 73, 74, 75, 76, 77, 78, 79] (by decide +kernel) (by decide +kernel)
set_option maxRecDepth 20000 in
theorem gX4_init_X1_init : GoodIn wsX4_init (wsX1_init) := ggX4_init_X1_init
set_option maxRecDepth 20000 in
theorem ggX4_init_X2_init : GoodIn wsX4_init wsX2_init := goodIn_r _ [48, 49, 2, 3, 50, 51, 26, 52, 65, 66, 67, 68, 69] (by decide +kernel) (by decide +kernel)
set_option maxRecDepth 20000 in
theorem gX4_init_X2_init_n33 : GoodIn wsX4_init (wsX2_init) := ggX4_init_X2_init
theorem dX4_init_0 : decode cX4_init 0 = .ok (.aload_n 0, 1) := by decide +kernel
theorem dX4_init_1 : decode cX4_init 1 = .ok (.invokespecial 1, 3) := by decide +kernel
theorem dX4_init_4 : decode cX4_init 4 = .ok (.aload_n 0, 1) := by decide +kernel
theorem dX4_init_5 : decode cX4_init 5 = .ok (.new 7, 3) := by decide +kernel
theorem dX4_init_8 : decode cX4_init 8 = .ok (.dup, 1) := by decide +kernel
theorem dX4_init_9 : decode cX4_init 9 = .ok (.invokespecial 9, 3) := by decide +kernel
theorem dX4_init_12 : decode cX4_init 12 = .ok (.putfield 10, 3) := by decide +kernel
theorem dX4_init_15 : decode cX4_init 15 = .ok (.aload_n 0, 1) := by decide +kernel
theorem dX4_init_16 : decode cX4_init 16 = .ok (.aload_n 0, 1) := by decide +kernel
theorem dX4_init_17 : decode cX4_init 17 = .ok (.getfield 10, 3) := by decide +kernel
theorem dX4_init_20 : decode cX4_init 20 = .ok (.getfield 16, 3) := by decide +kernel
theorem dX4_init_23 : decode cX4_init 23 = .ok (.putfield 20, 3) := by decide +kernel
theorem dX4_init_26 : decode cX4_init 26 = .ok (.aload_n 0, 1) := by decide +kernel
theorem dX4_init_27 : decode cX4_init 27 = .ok (.new 7, 3) := by decide +kernel
theorem dX4_init_30 : decode cX4_init 30 = .ok (.dup, 1) := by decide +kernel
theorem dX4_init_31 : decode cX4_init 31 = .ok (.invokespecial 9, 3) := by decide +kernel
theorem dX4_init_34 : decode cX4_init 34 = .ok (.putfield 21, 3) := by decide +kernel
theorem dX4_init_37 : decode cX4_init 37 = .ok (.aload_n 0, 1) := by decide +kernel
theorem dX4_init_38 : decode cX4_init 38 = .ok (.new 24, 3) := by decide +kernel
theorem dX4_init_41 : decode cX4_init 41 = .ok (.dup, 1) := by decide +kernel
theorem dX4_init_42 : decode cX4_init 42 = .ok (.invokespecial 26, 3) := by decide +kernel
theorem dX4_init_45 : decode cX4_init 45 = .ok (.putfield 27, 3) := by decide +kernel
theorem dX4_init_48 : decode cX4_init 48 = .ok (.aload_n 0, 1) := by decide +kernel
theorem dX4_init_49 : decode cX4_init 49 = .ok (.new 31, 3) := by decide +kernel
theorem dX4_init_52 : decode cX4_init 52 = .ok (.dup, 1) := by decide +kernel
theorem dX4_init_53 : decode cX4_init 53 = .ok (.invokespecial 33, 3) := by decide +kernel
theorem dX4_init_56 : decode cX4_init 56 = .ok (.putfield 34, 3) := by decide +kernel
theorem dX4_init_59 : decode cX4_init 59 = .ok (.return_, 1) := by decide +kernel
set_option maxRecDepth 20000 in
theorem ggX4_addRow_X4_checkHeight : GoodIn wsX4_addRow wsX4_checkHeight := goodIn_ca (goodIn_r _ [9, 1, 2] (by decide +kernel) (by decide +kernel)) (goodIn_sub (fun _ h => List.mem_cons_of_mem _ (List.mem_append_left _ (List.mem_append_right _ h))) (by decide +kernel))
set_option maxRecDepth 20000 in
theorem gX4_addRow_X4_checkHeight : GoodIn wsX4_addRow (va_wsS RX4 45 yX4_checkHeight wsX4_checkHeight) := goodIn_app (goodIn_of _ (by decide +kernel)) ggX4_addRow_X4_checkHeight
set_option maxRecDepth 20000 in
theorem ggX4_addRow_X0_hasRoomForRow : GoodIn wsX4_addRow wsX0_hasRoomForRow := goodIn_r _ [14, 15, 16, 69, 70, 71, 72, 73, 74, 75, 76, 77, 78] (by decide +kernel) (by decide +kernel)
set_option maxRecDepth 20000 in
theorem gX4_addRow_X0_hasRoomForRow : GoodIn wsX4_addRow (wsV RX4 51 RX0 yX0_hasRoomForRow wsX0_hasRoomForRow) := goodIn_app (goodIn_of _ (by decide +kernel)) ggX4_addRow_X0_hasRoomForRow
set_option maxRecDepth 20000 in
theorem ggX4_addRow_X4_saveState : GoodIn wsX4_addRow wsX4_saveState := goodIn_r _ [20, 21, 5, 22, 23, 24, 25, 26, 27, 28, 29, 30, 31, 32, 33, 34, 35, 36, 13, 37, 15, 16, 38, 39, 40, 41, 42, 43, 44, 45, 46, 47, 48, 49, 50, 51, 52, 53, 54, 55, 64, 65, 66, 67, 68, 79, 80, 69, 70, 71, 72, 73, 74, 75, 76, 77, 78, 81, 82, 83, 84, 85] (by decide +kernel) (by decide +kernel)
set_option maxRecDepth 20000 in
theorem gX4_addRow_X4_saveState : GoodIn wsX4_addRow (wsV RX4 62 RX4 yX4_saveState wsX4_saveState) := goodIn_app (goodIn_of _ (by decide +kernel)) ggX4_addRow_X4_saveState
set_option maxRecDepth 20000 in
theorem ggX4_addRow_X0_insertRow : GoodIn wsX4_addRow wsX0_insertRow := goodIn_r _ [59, 15, 16, 42, 43, 44, 60, 61, 62, 13, 63, 69, 70, 71, 72, 73, 74, 75, 76, 77, 78] (by decide +kernel) (by decide +kernel)
set_option maxRecDepth 20000 in
theorem gX4_addRow_X0_insertRow : GoodIn wsX4_addRow (wsV RX4 65 RX0 yX0_insertRow wsX0_insertRow) := goodIn_app (goodIn_of _ (by decide +kernel)) ggX4_addRow_X0_insertRow
theorem dX4_addRow_0 : decode cX4_addRow 0 = .ok (.iload_n 1, 1) := by decide +kernel
theorem dX4_addRow_1 : decode cX4_addRow 1 = .ok (.iconst 1, 1) := by decide +kernel
theorem dX4_addRow_2 : decode cX4_addRow 2 = .ok (.if_icmp .lt 10, 3) := by decide +kernel
theorem dX4_addRow_5 : decode cX4_addRow 5 = .ok (.iload_n 1, 1) := by decide +kernel
theorem dX4_addRow_6 : decode cX4_addRow 6 = .ok (.sipush 999, 3) := by decide +kernel
theorem dX4_addRow_9 : decode cX4_addRow 9 = .ok (.if_icmp .le 13, 3) := by decide +kernel
theorem dX4_addRow_12 : decode cX4_addRow 12 = .ok (.new 38, 3) := by decide +kernel
theorem dX4_addRow_15 : decode cX4_addRow 15 = .ok (.dup, 1) := by decide +kernel
theorem dX4_addRow_16 : decode cX4_addRow 16 = .ok (.ldc 40, 2) := by decide +kernel
theorem dX4_addRow_18 : decode cX4_addRow 18 = .ok (.invokespecial 42, 3) := by decide +kernel
theorem dX4_addRow_21 : decode cX4_addRow 21 = .ok (.athrow, 1) := by decide +kernel
theorem dX4_addRow_22 : decode cX4_addRow 22 = .ok (.iload_n 2, 1) := by decide +kernel
theorem dX4_addRow_23 : decode cX4_addRow 23 = .ok (.invokestatic 45, 3) := by decide +kernel
theorem dX4_addRow_26 : decode cX4_addRow 26 = .ok (.iload_n 3, 1) := by decide +kernel
theorem dX4_addRow_27 : decode cX4_addRow 27 = .ok (.iconst 1, 1) := by decide +kernel
theorem dX4_addRow_28 : decode cX4_addRow 28 = .ok (.if_icmp .lt 9, 3) := by decide +kernel
theorem dX4_addRow_31 : decode cX4_addRow 31 = .ok (.iload_n 3, 1) := by decide +kernel
theorem dX4_addRow_32 : decode cX4_addRow 32 = .ok (.bipush 12, 2) := by decide +kernel
theorem dX4_addRow_34 : decode cX4_addRow 34 = .ok (.if_icmp .le 13, 3) := by decide +kernel
theorem dX4_addRow_37 : decode cX4_addRow 37 = .ok (.new 38, 3) := by decide +kernel
theorem dX4_addRow_40 : decode cX4_addRow 40 = .ok (.dup, 1) := by decide +kernel
theorem dX4_addRow_41 : decode cX4_addRow 41 = .ok (.ldc 49, 2) := by decide +kernel
theorem dX4_addRow_43 : decode cX4_addRow 43 = .ok (.invokespecial 42, 3) := by decide +kernel
theorem dX4_addRow_46 : decode cX4_addRow 46 = .ok (.athrow, 1) := by decide +kernel
theorem dX4_addRow_47 : decode cX4_addRow 47 = .ok (.aload_n 0, 1) := by decide +kernel
theorem dX4_addRow_48 : decode cX4_addRow 48 = .ok (.getfield 20, 3) := by decide +kernel
theorem dX4_addRow_51 : decode cX4_addRow 51 = .ok (.iload_n 1, 1) := by decide +kernel
theorem dX4_addRow_52 : decode cX4_addRow 52 = .ok (.invokevirtual 51, 3) := by decide +kernel
theorem dX4_addRow_55 : decode cX4_addRow 55 = .ok (.ifCond .ne 13, 3) := by decide +kernel
theorem dX4_addRow_58 : decode cX4_addRow 58 = .ok (.new 57, 3) := by decide +kernel
theorem dX4_addRow_61 : decode cX4_addRow 61 = .ok (.dup, 1) := by decide +kernel
theorem dX4_addRow_62 : decode cX4_addRow 62 = .ok (.ldc 59, 2) := by decide +kernel
theorem dX4_addRow_64 : decode cX4_addRow 64 = .ok (.invokespecial 61, 3) := by decide +kernel
theorem dX4_addRow_67 : decode cX4_addRow 67 = .ok (.athrow, 1) := by decide +kernel
theorem dX4_addRow_68 : decode cX4_addRow 68 = .ok (.aload_n 0, 1) := by decide +kernel
theorem dX4_addRow_69 : decode cX4_addRow 69 = .ok (.invokevirtual 62, 3) := by decide +kernel
theorem dX4_addRow_72 : decode cX4_addRow 72 = .ok (.aload_n 0, 1) := by decide +kernel
theorem dX4_addRow_73 : decode cX4_addRow 73 = .ok (.getfield 20, 3) := by decide +kernel
theorem dX4_addRow_76 : decode cX4_addRow 76 = .ok (.iload_n 1, 1) := by decide +kernel
theorem dX4_addRow_77 : decode cX4_addRow 77 = .ok (.iload_n 2, 1) := by decide +kernel
theorem dX4_addRow_78 : decode cX4_addRow 78 = .ok (.iload_n 3, 1) := by decide +kernel
theorem dX4_addRow_79 : decode cX4_addRow 79 = .ok (.invokevirtual 65, 3) := by decide +kernel
theorem dX4_addRow_82 : decode cX4_addRow 82 = .ok (.ireturn, 1) := by decide +kernel
set_option maxRecDepth 20000 in
theorem ggX4_removeRow_X4_checkRow : GoodIn wsX4_removeRow wsX4_checkRow := goodIn_ca (goodIn_r _ [6, 7, 8, 1, 9, 64, 65, 66, 67, 68, 69, 70, 71, 72, 73, 74, 75, 76, 77, 78] (by decide +kernel) (by decide +kernel)) (goodIn_sub (fun _ h => List.mem_cons_of_mem _ (List.mem_append_right _ h)) (by decide +kernel))
set_option maxRecDepth 20000 in
theorem gX4_removeRow_X4_checkRow : GoodIn wsX4_removeRow (wsV RX4 69 RX4 yX4_checkRow wsX4_checkRow) := goodIn_app (goodIn_of _ (by decide +kernel)) ggX4_removeRow_X4_checkRow
set_option maxRecDepth 20000 in
theorem ggX4_removeRow_X4_saveState : GoodIn wsX4_removeRow wsX4_saveState := goodIn_r _ [13, 14, 1, 15, 16, 17, 18, 19, 20, 21, 22, 23, 24, 25, 26, 27, 28, 29, 30, 31, 32, 33, 34, 35, 36, 37, 38, 39, 40, 41, 42, 43, 44, 45, 46, 47, 48, 49, 50, 51, 64, 65, 66, 67, 68, 79, 80, 69, 70, 71, 72, 73, 74, 75, 76, 77, 78, 81, 82, 83, 84, 85] (by decide +kernel) (by decide +kernel)
set_option maxRecDepth 20000 in
theorem gX4_removeRow_X4_saveState : GoodIn wsX4_removeRow (wsV RX4 62 RX4 yX4_saveState wsX4_saveState) := goodIn_app (goodIn_of _ (by decide +kernel)) ggX4_removeRow_X4_saveState
set_option maxRecDepth 20000 in
theorem ggX4_removeRow_X0_deleteRow : GoodIn wsX4_removeRow wsX0_deleteRow := goodIn_r _ [55, 32, 56, 57, 58, 30, 59, 33, 38, 39, 40, 69, 70, 71, 72, 73, 74, 75, 76, 77, 78] (by decide +kernel) (by decide +kernel)
set_option maxRecDepth 20000 in
theorem gX4_removeRow_X0_deleteRow : GoodIn wsX4_removeRow (wsV RX4 72 RX0 yX0_deleteRow wsX0_deleteRow) := goodIn_app (goodIn_of _ (by decide +kernel)) ggX4_removeRow_X0_deleteRow
set_option maxRecDepth 20000 in
theorem ggX4_removeRow_X0_seatsInAll : GoodIn wsX4_removeRow wsX0_seatsInAll := goodIn_r _ [63, 32, 39, 69, 70, 71, 72, 73, 74, 75, 76, 77, 78] (by decide +kernel) (by decide +kernel)
set_option maxRecDepth 20000 in
theorem gX4_removeRow_X0_seatsInAll : GoodIn wsX4_removeRow (wsV RX4 75 RX0 yX0_seatsInAll wsX0_seatsInAll) := goodIn_app (goodIn_of _ (by decide +kernel)) ggX4_removeRow_X0_seatsInAll
theorem dX4_removeRow_0 : decode cX4_removeRow 0 = .ok (.aload_n 0, 1) := by decide +kernel
theorem dX4_removeRow_1 : decode cX4_removeRow 1 = .ok (.iload_n 1, 1) := by decide +kernel
theorem dX4_removeRow_2 : decode cX4_removeRow 2 = .ok (.invokevirtual 69, 3) := by decide +kernel
theorem dX4_removeRow_5 : decode cX4_removeRow 5 = .ok (.aload_n 0, 1) := by decide +kernel
theorem dX4_removeRow_6 : decode cX4_removeRow 6 = .ok (.invokevirtual 62, 3) := by decide +kernel
theorem dX4_removeRow_9 : decode cX4_removeRow 9 = .ok (.aload_n 0, 1) := by decide +kernel
theorem dX4_removeRow_10 : decode cX4_removeRow 10 = .ok (.getfield 20, 3) := by decide +kernel
theorem dX4_removeRow_13 : decode cX4_removeRow 13 = .ok (.iload_n 1, 1) := by decide +kernel
theorem dX4_removeRow_14 : decode cX4_removeRow 14 = .ok (.invokevirtual 72, 3) := by decide +kernel
theorem dX4_removeRow_17 : decode cX4_removeRow 17 = .ok (.aload_n 0, 1) := by decide +kernel
theorem dX4_removeRow_18 : decode cX4_removeRow 18 = .ok (.getfield 20, 3) := by decide +kernel
theorem dX4_removeRow_21 : decode cX4_removeRow 21 = .ok (.invokevirtual 75, 3) := by decide +kernel
theorem dX4_removeRow_24 : decode cX4_removeRow 24 = .ok (.ireturn, 1) := by decide +kernel
set_option maxRecDepth 20000 in
theorem ggX4_lift_X4_checkRow : GoodIn wsX4_lift wsX4_checkRow := goodIn_ca (goodIn_r _ [7, 8, 9, 1, 10, 58, 59, 60, 61, 62, 63, 64, 65, 66, 67, 68, 69, 70, 71, 72] (by decide +kernel) (by decide +kernel)) (goodIn_sub (fun _ h => List.mem_cons_of_mem _ (List.mem_append_left _ (List.mem_append_right _ h))) (by decide +kernel))
set_option maxRecDepth 20000 in
theorem gX4_lift_X4_checkRow : GoodIn wsX4_lift (wsV RX4 69 RX4 yX4_checkRow wsX4_checkRow) := goodIn_app (goodIn_of _ (by decide +kernel)) ggX4_lift_X4_checkRow
set_option maxRecDepth 20000 in
theorem ggX4_lift_X4_checkHeight : GoodIn wsX4_lift wsX4_checkHeight := goodIn_ca (goodIn_r _ [13, 14, 15] (by decide +kernel) (by decide +kernel)) (goodIn_sub (fun _ h => List.mem_cons_of_mem _ (List.mem_append_right _ h)) (by decide +kernel))
set_option maxRecDepth 20000 in
theorem gX4_lift_X4_checkHeight : GoodIn wsX4_lift (va_wsS RX4 45 yX4_checkHeight wsX4_checkHeight) := goodIn_app (goodIn_of _ (by decide +kernel)) ggX4_lift_X4_checkHeight
set_option maxRecDepth 20000 in
theorem ggX4_lift_X4_saveState : GoodIn wsX4_lift wsX4_saveState := goodIn_r _ [19, 20, 1, 21, 22, 23, 24, 25, 26, 27, 28, 29, 30, 31, 32, 33, 34, 35, 36, 37, 38, 39, 40, 41, 42, 43, 44, 45, 46, 47, 48, 49, 50, 51, 52, 53, 54, 55, 56, 57, 58, 59, 60, 61, 62, 73, 74, 63, 64, 65, 66, 67, 68, 69, 70, 71, 72, 75, 76, 77, 78, 79] (by decide +kernel) (by decide +kernel)
set_option maxRecDepth 20000 in
theorem gX4_lift_X4_saveState : GoodIn wsX4_lift (wsV RX4 62 RX4 yX4_saveState wsX4_saveState) := goodIn_app (goodIn_of _ (by decide +kernel)) ggX4_lift_X4_saveState
theorem dX4_lift_0 : decode cX4_lift 0 = .ok (.aload_n 0, 1) := by decide +kernel
theorem dX4_lift_1 : decode cX4_lift 1 = .ok (.iload_n 1, 1) := by decide +kernel
theorem dX4_lift_2 : decode cX4_lift 2 = .ok (.invokevirtual 69, 3) := by decide +kernel
theorem dX4_lift_5 : decode cX4_lift 5 = .ok (.iload_n 2, 1) := by decide +kernel
theorem dX4_lift_6 : decode cX4_lift 6 = .ok (.invokestatic 45, 3) := by decide +kernel
theorem dX4_lift_9 : decode cX4_lift 9 = .ok (.aload_n 0, 1) := by decide +kernel
theorem dX4_lift_10 : decode cX4_lift 10 = .ok (.invokevirtual 62, 3) := by decide +kernel
theorem dX4_lift_13 : decode cX4_lift 13 = .ok (.aload_n 0, 1) := by decide +kernel
theorem dX4_lift_14 : decode cX4_lift 14 = .ok (.getfield 20, 3) := by decide +kernel
theorem dX4_lift_17 : decode cX4_lift 17 = .ok (.getfield 79, 3) := by decide +kernel
theorem dX4_lift_20 : decode cX4_lift 20 = .ok (.iload_n 1, 1) := by decide +kernel
theorem dX4_lift_21 : decode cX4_lift 21 = .ok (.iaload, 1) := by decide +kernel
theorem dX4_lift_22 : decode cX4_lift 22 = .ok (.istore_n 3, 1) := by decide +kernel
theorem dX4_lift_23 : decode cX4_lift 23 = .ok (.aload_n 0, 1) := by decide +kernel
theorem dX4_lift_24 : decode cX4_lift 24 = .ok (.getfield 20, 3) := by decide +kernel
theorem dX4_lift_27 : decode cX4_lift 27 = .ok (.getfield 79, 3) := by decide +kernel
theorem dX4_lift_30 : decode cX4_lift 30 = .ok (.iload_n 1, 1) := by decide +kernel
theorem dX4_lift_31 : decode cX4_lift 31 = .ok (.iload_n 2, 1) := by decide +kernel
theorem dX4_lift_32 : decode cX4_lift 32 = .ok (.iastore, 1) := by decide +kernel
theorem dX4_lift_33 : decode cX4_lift 33 = .ok (.iload_n 3, 1) := by decide +kernel
theorem dX4_lift_34 : decode cX4_lift 34 = .ok (.ireturn, 1) := by decide +kernel
set_option maxRecDepth 20000 in
theorem ggX4_addColumn_X4_saveState : GoodIn wsX4_addColumn wsX4_saveState := goodIn_r _ [11, 12, 5, 13, 14, 15, 16, 17, 18, 19, 20, 21, 22, 23, 24, 25, 26, 27, 28, 29, 30, 31, 32, 33, 34, 35, 36, 37, 38, 39, 40, 41, 42, 43, 44, 45, 46, 47, 48, 49, 54, 55, 56, 57, 58, 69, 70, 59, 60, 61, 62, 63, 64, 65, 66, 67, 68, 71, 72, 73, 74, 75] (by decide +kernel) (by decide +kernel)
set_option maxRecDepth 20000 in
theorem gX4_addColumn_X4_saveState : GoodIn wsX4_addColumn (wsV RX4 62 RX4 yX4_saveState wsX4_saveState) := goodIn_app (goodIn_of _ (by decide +kernel)) ggX4_addColumn_X4_saveState
set_option maxRecDepth 20000 in
theorem ggX4_addColumn_X0_insertColumn : GoodIn wsX4_addColumn wsX0_insertColumn := goodIn_r _ [53, 40, 39, 41, 42, 59, 60, 61, 62, 63, 64, 65, 66, 67, 68] (by decide +kernel) (by decide +kernel)
set_option maxRecDepth 20000 in
theorem gX4_addColumn_X0_insertColumn : GoodIn wsX4_addColumn (wsV RX4 93 RX0 yX0_insertColumn wsX0_insertColumn) := goodIn_app (goodIn_of _ (by decide +kernel)) ggX4_addColumn_X0_insertColumn
theorem dX4_addColumn_0 : decode cX4_addColumn 0 = .ok (.iload_n 1, 1) := by decide +kernel
theorem dX4_addColumn_1 : decode cX4_addColumn 1 = .ok (.iconst 1, 1) := by decide +kernel
theorem dX4_addColumn_2 : decode cX4_addColumn 2 = .ok (.if_icmp .lt 10, 3) := by decide +kernel
theorem dX4_addColumn_5 : decode cX4_addColumn 5 = .ok (.iload_n 1, 1) := by decide +kernel
theorem dX4_addColumn_6 : decode cX4_addColumn 6 = .ok (.sipush 999, 3) := by decide +kernel
theorem dX4_addColumn_9 : decode cX4_addColumn 9 = .ok (.if_icmp .le 13, 3) := by decide +kernel
theorem dX4_addColumn_12 : decode cX4_addColumn 12 = .ok (.new 38, 3) := by decide +kernel
theorem dX4_addColumn_15 : decode cX4_addColumn 15 = .ok (.dup, 1) := by decide +kernel
theorem dX4_addColumn_16 : decode cX4_addColumn 16 = .ok (.ldc 40, 2) := by decide +kernel
theorem dX4_addColumn_18 : decode cX4_addColumn 18 = .ok (.invokespecial 42, 3) := by decide +kernel
theorem dX4_addColumn_21 : decode cX4_addColumn 21 = .ok (.athrow, 1) := by decide +kernel
theorem dX4_addColumn_22 : decode cX4_addColumn 22 = .ok (.iload_n 2, 1) := by decide +kernel
theorem dX4_addColumn_23 : decode cX4_addColumn 23 = .ok (.bipush (-12), 2) := by decide +kernel
theorem dX4_addColumn_25 : decode cX4_addColumn 25 = .ok (.if_icmp .lt 9, 3) := by decide +kernel
theorem dX4_addColumn_28 : decode cX4_addColumn 28 = .ok (.iload_n 2, 1) := by decide +kernel
theorem dX4_addColumn_29 : decode cX4_addColumn 29 = .ok (.bipush 12, 2) := by decide +kernel
theorem dX4_addColumn_31 : decode cX4_addColumn 31 = .ok (.if_icmp .le 13, 3) := by decide +kernel
theorem dX4_addColumn_34 : decode cX4_addColumn 34 = .ok (.new 38, 3) := by decide +kernel
theorem dX4_addColumn_37 : decode cX4_addColumn 37 = .ok (.dup, 1) := by decide +kernel
theorem dX4_addColumn_38 : decode cX4_addColumn 38 = .ok (.ldc 83, 2) := by decide +kernel
theorem dX4_addColumn_40 : decode cX4_addColumn 40 = .ok (.invokespecial 42, 3) := by decide +kernel
theorem dX4_addColumn_43 : decode cX4_addColumn 43 = .ok (.athrow, 1) := by decide +kernel
theorem dX4_addColumn_44 : decode cX4_addColumn 44 = .ok (.iload_n 3, 1) := by decide +kernel
theorem dX4_addColumn_45 : decode cX4_addColumn 45 = .ok (.ifCond .lt 8, 3) := by decide +kernel
theorem dX4_addColumn_48 : decode cX4_addColumn 48 = .ok (.iload_n 3, 1) := by decide +kernel
theorem dX4_addColumn_49 : decode cX4_addColumn 49 = .ok (.iconst 5, 1) := by decide +kernel
theorem dX4_addColumn_50 : decode cX4_addColumn 50 = .ok (.if_icmp .le 13, 3) := by decide +kernel
theorem dX4_addColumn_53 : decode cX4_addColumn 53 = .ok (.new 38, 3) := by decide +kernel
theorem dX4_addColumn_56 : decode cX4_addColumn 56 = .ok (.dup, 1) := by decide +kernel
theorem dX4_addColumn_57 : decode cX4_addColumn 57 = .ok (.ldc 85, 2) := by decide +kernel
theorem dX4_addColumn_59 : decode cX4_addColumn 59 = .ok (.invokespecial 42, 3) := by decide +kernel
theorem dX4_addColumn_62 : decode cX4_addColumn 62 = .ok (.athrow, 1) := by decide +kernel
theorem dX4_addColumn_63 : decode cX4_addColumn 63 = .ok (.aload_n 0, 1) := by decide +kernel
theorem dX4_addColumn_64 : decode cX4_addColumn 64 = .ok (.getfield 20, 3) := by decide +kernel
theorem dX4_addColumn_67 : decode cX4_addColumn 67 = .ok (.getfield 87, 3) := by decide +kernel
theorem dX4_addColumn_70 : decode cX4_addColumn 70 = .ok (.iconst 4, 1) := by decide +kernel
theorem dX4_addColumn_71 : decode cX4_addColumn 71 = .ok (.if_icmp .lt 13, 3) := by decide +kernel
theorem dX4_addColumn_74 : decode cX4_addColumn 74 = .ok (.new 57, 3) := by decide +kernel
theorem dX4_addColumn_77 : decode cX4_addColumn 77 = .ok (.dup, 1) := by decide +kernel
theorem dX4_addColumn_78 : decode cX4_addColumn 78 = .ok (.ldc 91, 2) := by decide +kernel
theorem dX4_addColumn_80 : decode cX4_addColumn 80 = .ok (.invokespecial 61, 3) := by decide +kernel
theorem dX4_addColumn_83 : decode cX4_addColumn 83 = .ok (.athrow, 1) := by decide +kernel
theorem dX4_addColumn_84 : decode cX4_addColumn 84 = .ok (.aload_n 0, 1) := by decide +kernel
theorem dX4_addColumn_85 : decode cX4_addColumn 85 = .ok (.invokevirtual 62, 3) := by decide +kernel
theorem dX4_addColumn_88 : decode cX4_addColumn 88 = .ok (.aload_n 0, 1) := by decide +kernel
theorem dX4_addColumn_89 : decode cX4_addColumn 89 = .ok (.getfield 20, 3) := by decide +kernel
theorem dX4_addColumn_92 : decode cX4_addColumn 92 = .ok (.iload_n 1, 1) := by decide +kernel
theorem dX4_addColumn_93 : decode cX4_addColumn 93 = .ok (.iload_n 2, 1) := by decide +kernel
theorem dX4_addColumn_94 : decode cX4_addColumn 94 = .ok (.iload_n 3, 1) := by decide +kernel
theorem dX4_addColumn_95 : decode cX4_addColumn 95 = .ok (.invokevirtual 93, 3) := by decide +kernel
theorem dX4_addColumn_98 : decode cX4_addColumn 98 = .ok (.ireturn, 1) := by decide +kernel
set_option maxRecDepth 20000 in
theorem ggX4_removeColumn_X4_checkColumn : GoodIn wsX4_removeColumn wsX4_checkColumn := goodIn_ca (goodIn_r _ [7, 8, 9, 1, 2, 56, 57, 58, 59, 60, 61, 62, 63, 64, 65, 66, 67, 68, 69, 70] (by decide +kernel) (by decide +kernel)) (goodIn_sub (fun _ h => List.mem_cons_of_mem _ (List.mem_append_right _ h)) (by decide +kernel))
set_option maxRecDepth 20000 in
theorem gX4_removeColumn_X4_checkColumn : GoodIn wsX4_removeColumn (wsV RX4 96 RX4 yX4_checkColumn wsX4_checkColumn) := goodIn_app (goodIn_of _ (by decide +kernel)) ggX4_removeColumn_X4_checkColumn
set_option maxRecDepth 20000 in
theorem ggX4_removeColumn_X4_saveState : GoodIn wsX4_removeColumn wsX4_saveState := goodIn_r _ [13, 14, 1, 15, 16, 17, 18, 19, 20, 21, 22, 23, 24, 25, 26, 27, 28, 29, 30, 31, 32, 33, 34, 35, 36, 37, 38, 39, 40, 41, 42, 43, 44, 45, 46, 47, 48, 49, 50, 51, 56, 57, 58, 59, 60, 71, 72, 61, 62, 63, 64, 65, 66, 67, 68, 69, 70, 73, 74, 75, 76, 77] (by decide +kernel) (by decide +kernel)
set_option maxRecDepth 20000 in
theorem gX4_removeColumn_X4_saveState : GoodIn wsX4_removeColumn (wsV RX4 62 RX4 yX4_saveState wsX4_saveState) := goodIn_app (goodIn_of _ (by decide +kernel)) ggX4_removeColumn_X4_saveState
set_option maxRecDepth 20000 in
theorem ggX4_removeColumn_X0_deleteColumn : GoodIn wsX4_removeColumn wsX0_deleteColumn := goodIn_r _ [55, 41, 42, 43, 44, 61, 62, 63, 64, 65, 66, 67, 68, 69, 70] (by decide +kernel) (by decide +kernel)
set_option maxRecDepth 20000 in
theorem gX4_removeColumn_X0_deleteColumn : GoodIn wsX4_removeColumn (wsV RX4 99 RX0 yX0_deleteColumn wsX0_deleteColumn) := goodIn_app (goodIn_of _ (by decide +kernel)) ggX4_removeColumn_X0_deleteColumn
theorem dX4_removeColumn_0 : decode cX4_removeColumn 0 = .ok (.aload_n 0, 1) := by decide +kernel
theorem dX4_removeColumn_1 : decode cX4_removeColumn 1 = .ok (.iload_n 1, 1) := by decide +kernel
theorem dX4_removeColumn_2 : decode cX4_removeColumn 2 = .ok (.invokevirtual 96, 3) := by decide +kernel
theorem dX4_removeColumn_5 : decode cX4_removeColumn 5 = .ok (.aload_n 0, 1) := by decide +kernel
theorem dX4_removeColumn_6 : decode cX4_removeColumn 6 = .ok (.invokevirtual 62, 3) := by decide +kernel
theorem dX4_removeColumn_9 : decode cX4_removeColumn 9 = .ok (.aload_n 0, 1) := by decide +kernel
theorem dX4_removeColumn_10 : decode cX4_removeColumn 10 = .ok (.getfield 20, 3) := by decide +kernel
theorem dX4_removeColumn_13 : decode cX4_removeColumn 13 = .ok (.iload_n 1, 1) := by decide +kernel
theorem dX4_removeColumn_14 : decode cX4_removeColumn 14 = .ok (.invokevirtual 99, 3) := by decide +kernel
theorem dX4_removeColumn_17 : decode cX4_removeColumn 17 = .ok (.aload_n 0, 1) := by decide +kernel
theorem dX4_removeColumn_18 : decode cX4_removeColumn 18 = .ok (.getfield 20, 3) := by decide +kernel
theorem dX4_removeColumn_21 : decode cX4_removeColumn 21 = .ok (.getfield 87, 3) := by decide +kernel
theorem dX4_removeColumn_24 : decode cX4_removeColumn 24 = .ok (.ireturn, 1) := by decide +kernel
set_option maxRecDepth 20000 in
theorem ggX4_set_X4_checkSetting : GoodIn wsX4_set wsX4_checkSetting := goodIn_ca (goodIn_r _ [10, 11, 12] (by decide +kernel) (by decide +kernel)) (goodIn_sub (fun _ h => List.mem_cons_of_mem _ (List.mem_append_right _ h)) (by decide +kernel))
set_option maxRecDepth 20000 in
theorem gX4_set_X4_checkSetting : GoodIn wsX4_set (va_wsS RX4 102 yX4_checkSetting wsX4_checkSetting) := goodIn_app (goodIn_of _ (by decide +kernel)) ggX4_set_X4_checkSetting
set_option maxRecDepth 20000 in
theorem ggX4_set_X4_saveState : GoodIn wsX4_set wsX4_saveState := goodIn_r _ [16, 17, 5, 18, 19, 20, 21, 22, 23, 24, 25, 26, 27, 28, 29, 30, 31, 32, 33, 34, 35, 36, 37, 38, 39, 40, 41, 42, 43, 44, 45, 46, 47, 48, 49, 50, 51, 52, 53, 54, 55, 56, 57, 58, 59, 70, 71, 60, 61, 62, 63, 64, 65, 66, 67, 68, 69, 72, 73, 74, 75, 76] (by decide +kernel) (by decide +kernel)
set_option maxRecDepth 20000 in
theorem gX4_set_X4_saveState : GoodIn wsX4_set (wsV RX4 62 RX4 yX4_saveState wsX4_saveState) := goodIn_app (goodIn_of _ (by decide +kernel)) ggX4_set_X4_saveState
theorem dX4_set_0 : decode cX4_set 0 = .ok (.iload_n 1, 1) := by decide +kernel
theorem dX4_set_1 : decode cX4_set 1 = .ok (.invokestatic 102, 3) := by decide +kernel
theorem dX4_set_4 : decode cX4_set 4 = .ok (.iload_n 2, 1) := by decide +kernel
theorem dX4_set_5 : decode cX4_set 5 = .ok (.getstatic 105, 3) := by decide +kernel
theorem dX4_set_8 : decode cX4_set 8 = .ok (.iload_n 1, 1) := by decide +kernel
theorem dX4_set_9 : decode cX4_set 9 = .ok (.iaload, 1) := by decide +kernel
theorem dX4_set_10 : decode cX4_set 10 = .ok (.if_icmp .lt 12, 3) := by decide +kernel
theorem dX4_set_13 : decode cX4_set 13 = .ok (.iload_n 2, 1) := by decide +kernel
theorem dX4_set_14 : decode cX4_set 14 = .ok (.getstatic 108, 3) := by decide +kernel
theorem dX4_set_17 : decode cX4_set 17 = .ok (.iload_n 1, 1) := by decide +kernel
theorem dX4_set_18 : decode cX4_set 18 = .ok (.iaload, 1) := by decide +kernel
theorem dX4_set_19 : decode cX4_set 19 = .ok (.if_icmp .le 13, 3) := by decide +kernel
theorem dX4_set_22 : decode cX4_set 22 = .ok (.new 38, 3) := by decide +kernel
theorem dX4_set_25 : decode cX4_set 25 = .ok (.dup, 1) := by decide +kernel
theorem dX4_set_26 : decode cX4_set 26 = .ok (.ldc 111, 2) := by decide +kernel
theorem dX4_set_28 : decode cX4_set 28 = .ok (.invokespecial 42, 3) := by decide +kernel
theorem dX4_set_31 : decode cX4_set 31 = .ok (.athrow, 1) := by decide +kernel
theorem dX4_set_32 : decode cX4_set 32 = .ok (.aload_n 0, 1) := by decide +kernel
theorem dX4_set_33 : decode cX4_set 33 = .ok (.invokevirtual 62, 3) := by decide +kernel
theorem dX4_set_36 : decode cX4_set 36 = .ok (.aload_n 0, 1) := by decide +kernel
theorem dX4_set_37 : decode cX4_set 37 = .ok (.getfield 20, 3) := by decide +kernel
theorem dX4_set_40 : decode cX4_set 40 = .ok (.getfield 113, 3) := by decide +kernel
theorem dX4_set_43 : decode cX4_set 43 = .ok (.iload_n 1, 1) := by decide +kernel
theorem dX4_set_44 : decode cX4_set 44 = .ok (.iaload, 1) := by decide +kernel
theorem dX4_set_45 : decode cX4_set 45 = .ok (.istore_n 3, 1) := by decide +kernel
theorem dX4_set_46 : decode cX4_set 46 = .ok (.aload_n 0, 1) := by decide +kernel
theorem dX4_set_47 : decode cX4_set 47 = .ok (.getfield 20, 3) := by decide +kernel
theorem dX4_set_50 : decode cX4_set 50 = .ok (.getfield 113, 3) := by decide +kernel
theorem dX4_set_53 : decode cX4_set 53 = .ok (.iload_n 1, 1) := by decide +kernel
theorem dX4_set_54 : decode cX4_set 54 = .ok (.iload_n 2, 1) := by decide +kernel
theorem dX4_set_55 : decode cX4_set 55 = .ok (.iastore, 1) := by decide +kernel
theorem dX4_set_56 : decode cX4_set 56 = .ok (.iload_n 3, 1) := by decide +kernel
theorem dX4_set_57 : decode cX4_set 57 = .ok (.ireturn, 1) := by decide +kernel
set_option maxRecDepth 20000 in
theorem ggX4_take_X4_checkSeat : GoodIn wsX4_take wsX4_checkSeat := goodIn_ca (goodIn_r _ [8, 9, 10, 3, 11, 12, 13, 14, 7, 15, 16, 95, 96, 97, 98, 99, 100, 101, 102, 103, 104, 105, 106, 107, 108, 109] (by decide +kernel) (by decide +kernel)) (goodIn_sub (fun _ h => List.mem_cons_of_mem _ (List.mem_append_right _ h)) (by decide +kernel))
set_option maxRecDepth 20000 in
theorem gX4_take_X4_checkSeat : GoodIn wsX4_take (wsV RX4 116 RX4 yX4_checkSeat wsX4_checkSeat) := goodIn_app (goodIn_of _ (by decide +kernel)) ggX4_take_X4_checkSeat
set_option maxRecDepth 20000 in
theorem ggX4_take_X0_isTaken : GoodIn wsX4_take wsX0_isTaken := goodIn_r _ [21, 22, 100, 101, 102, 103, 104, 105, 106, 107, 108, 109] (by decide +kernel) (by decide +kernel)
set_option maxRecDepth 20000 in
theorem gX4_take_X0_isTaken : GoodIn wsX4_take (wsV RX4 120 RX0 yX0_isTaken wsX0_isTaken) := goodIn_app (goodIn_of _ (by decide +kernel)) ggX4_take_X0_isTaken
set_option maxRecDepth 20000 in
theorem ggX4_take_X4_saveState : GoodIn wsX4_take wsX4_saveState := goodIn_r _ [26, 27, 3, 28, 29, 30, 31, 32, 33, 34, 35, 36, 37, 38, 39, 40, 41, 42, 20, 43, 44, 45, 46, 47, 48, 49, 50, 51, 22, 52, 53, 54, 55, 56, 57, 58, 59, 60, 61, 62, 95, 96, 97, 98, 99, 110, 111, 100, 101, 102, 103, 104, 105, 106, 107, 108, 109, 112, 113, 114, 115, 116] (by decide +kernel) (by decide +kernel)
set_option maxRecDepth 20000 in
theorem gX4_take_X4_saveState : GoodIn wsX4_take (wsV RX4 62 RX4 yX4_saveState wsX4_saveState) := goodIn_app (goodIn_of _ (by decide +kernel)) ggX4_take_X4_saveState
set_option maxRecDepth 20000 in
theorem ggX4_take_X0_occupy : GoodIn wsX4_take wsX0_occupy := goodIn_r _ [66, 22, 67, 68, 20, 69, 100, 101, 102, 103, 104, 105, 106, 107, 108, 109] (by decide +kernel) (by decide +kernel)
set_option maxRecDepth 20000 in
theorem gX4_take_X0_occupy : GoodIn wsX4_take (wsV RX4 126 RX0 yX0_occupy wsX0_occupy) := goodIn_app (goodIn_of _ (by decide +kernel)) ggX4_take_X0_occupy
set_option maxRecDepth 20000 in
theorem ggX4_take_X0_peopleInWay : GoodIn wsX4_take wsX0_peopleInWay := goodIn_r _ [73, 51, 74, 18, 19, 20, 21, 22, 75, 76, 77, 78, 45, 79, 80, 81, 82, 83, 84, 85, 86, 87, 88, 89, 90, 50, 56, 91, 92, 93, 94, 100, 101, 102, 103, 104, 105, 106, 107, 108, 109] (by decide +kernel) (by decide +kernel)
set_option maxRecDepth 20000 in
theorem gX4_take_X0_peopleInWay : GoodIn wsX4_take (wsV RX4 130 RX0 yX0_peopleInWay wsX0_peopleInWay) := goodIn_app (goodIn_of _ (by decide +kernel)) ggX4_take_X0_peopleInWay
theorem dX4_take_0 : decode cX4_take 0 = .ok (.aload_n 0, 1) := by decide +kernel
theorem dX4_take_1 : decode cX4_take 1 = .ok (.iload_n 1, 1) := by decide +kernel
theorem dX4_take_2 : decode cX4_take 2 = .ok (.iload_n 2, 1) := by decide +kernel
theorem dX4_take_3 : decode cX4_take 3 = .ok (.invokevirtual 116, 3) := by decide +kernel
theorem dX4_take_6 : decode cX4_take 6 = .ok (.aload_n 0, 1) := by decide +kernel
theorem dX4_take_7 : decode cX4_take 7 = .ok (.getfield 20, 3) := by decide +kernel
theorem dX4_take_10 : decode cX4_take 10 = .ok (.iload_n 1, 1) := by decide +kernel
theorem dX4_take_11 : decode cX4_take 11 = .ok (.iload_n 2, 1) := by decide +kernel
theorem dX4_take_12 : decode cX4_take 12 = .ok (.invokevirtual 120, 3) := by decide +kernel
theorem dX4_take_15 : decode cX4_take 15 = .ok (.ifCond .eq 13, 3) := by decide +kernel
theorem dX4_take_18 : decode cX4_take 18 = .ok (.new 57, 3) := by decide +kernel
theorem dX4_take_21 : decode cX4_take 21 = .ok (.dup, 1) := by decide +kernel
theorem dX4_take_22 : decode cX4_take 22 = .ok (.ldc 124, 2) := by decide +kernel
theorem dX4_take_24 : decode cX4_take 24 = .ok (.invokespecial 61, 3) := by decide +kernel
theorem dX4_take_27 : decode cX4_take 27 = .ok (.athrow, 1) := by decide +kernel
theorem dX4_take_28 : decode cX4_take 28 = .ok (.aload_n 0, 1) := by decide +kernel
theorem dX4_take_29 : decode cX4_take 29 = .ok (.invokevirtual 62, 3) := by decide +kernel
theorem dX4_take_32 : decode cX4_take 32 = .ok (.aload_n 0, 1) := by decide +kernel
theorem dX4_take_33 : decode cX4_take 33 = .ok (.getfield 20, 3) := by decide +kernel
theorem dX4_take_36 : decode cX4_take 36 = .ok (.iload_n 1, 1) := by decide +kernel
theorem dX4_take_37 : decode cX4_take 37 = .ok (.iload_n 2, 1) := by decide +kernel
theorem dX4_take_38 : decode cX4_take 38 = .ok (.iconst 1, 1) := by decide +kernel
theorem dX4_take_39 : decode cX4_take 39 = .ok (.invokevirtual 126, 3) := by decide +kernel
theorem dX4_take_42 : decode cX4_take 42 = .ok (.aload_n 0, 1) := by decide +kernel
theorem dX4_take_43 : decode cX4_take 43 = .ok (.getfield 20, 3) := by decide +kernel
theorem dX4_take_46 : decode cX4_take 46 = .ok (.iload_n 1, 1) := by decide +kernel
theorem dX4_take_47 : decode cX4_take 47 = .ok (.iload_n 2, 1) := by decide +kernel
theorem dX4_take_48 : decode cX4_take 48 = .ok (.invokevirtual 130, 3) := by decide +kernel
theorem dX4_take_51 : decode cX4_take 51 = .ok (.ireturn, 1) := by decide +kernel
set_option maxRecDepth 20000 in
theorem ggX4_leave_X4_checkSeat : GoodIn wsX4_leave wsX4_checkSeat := goodIn_ca (goodIn_r _ [8, 9, 10, 3, 11, 12, 13, 14, 7, 15, 16, 85, 86, 87, 88, 89, 90, 91, 92, 93, 94, 95, 96, 97, 98, 99] (by decide +kernel) (by decide +kernel)) (goodIn_sub (fun _ h => List.mem_cons_of_mem _ (List.mem_append_right _ h)) (by decide +kernel))
set_option maxRecDepth 20000 in
theorem gX4_leave_X4_checkSeat : GoodIn wsX4_leave (wsV RX4 116 RX4 yX4_checkSeat wsX4_checkSeat) := goodIn_app (goodIn_of _ (by decide +kernel)) ggX4_leave_X4_checkSeat
set_option maxRecDepth 20000 in
theorem ggX4_leave_X0_isTaken : GoodIn wsX4_leave wsX0_isTaken := goodIn_r _ [21, 22, 90, 91, 92, 93, 94, 95, 96, 97, 98, 99] (by decide +kernel) (by decide +kernel)
set_option maxRecDepth 20000 in
theorem gX4_leave_X0_isTaken : GoodIn wsX4_leave (wsV RX4 120 RX0 yX0_isTaken wsX0_isTaken) := goodIn_app (goodIn_of _ (by decide +kernel)) ggX4_leave_X0_isTaken
set_option maxRecDepth 20000 in
theorem ggX4_leave_X4_saveState : GoodIn wsX4_leave wsX4_saveState := goodIn_r _ [26, 27, 3, 28, 29, 30, 31, 32, 33, 34, 35, 36, 37, 38, 39, 40, 41, 42, 20, 43, 44, 45, 46, 47, 48, 49, 50, 51, 22, 52, 53, 54, 55, 56, 57, 58, 59, 60, 61, 62, 85, 86, 87, 88, 89, 100, 101, 90, 91, 92, 93, 94, 95, 96, 97, 98, 99, 102, 103, 104, 105, 106] (by decide +kernel) (by decide +kernel)
set_option maxRecDepth 20000 in
theorem gX4_leave_X4_saveState : GoodIn wsX4_leave (wsV RX4 62 RX4 yX4_saveState wsX4_saveState) := goodIn_app (goodIn_of _ (by decide +kernel)) ggX4_leave_X4_saveState
set_option maxRecDepth 20000 in
theorem ggX4_leave_X0_vacate : GoodIn wsX4_leave wsX0_vacate := goodIn_r _ [66, 22, 67, 68, 20, 69, 90, 91, 92, 93, 94, 95, 96, 97, 98, 99] (by decide +kernel) (by decide +kernel)
set_option maxRecDepth 20000 in
theorem gX4_leave_X0_vacate : GoodIn wsX4_leave (wsV RX4 136 RX0 yX0_vacate wsX0_vacate) := goodIn_app (goodIn_of _ (by decide +kernel)) ggX4_leave_X0_vacate
set_option maxRecDepth 20000 in
theorem ggX4_leave_X0_takenInAll : GoodIn wsX4_leave wsX0_takenInAll := goodIn_r _ [73, 44, 74, 75, 76, 20, 77, 22, 78, 79, 80, 81, 82, 83, 84, 90, 91, 92, 93, 94, 95, 96, 97, 98, 99] (by decide +kernel) (by decide +kernel)
set_option maxRecDepth 20000 in
theorem gX4_leave_X0_takenInAll : GoodIn wsX4_leave (wsV RX4 139 RX0 yX0_takenInAll wsX0_takenInAll) := goodIn_app (goodIn_of _ (by decide +kernel)) ggX4_leave_X0_takenInAll
theorem dX4_leave_0 : decode cX4_leave 0 = .ok (.aload_n 0, 1) := by decide +kernel
theorem dX4_leave_1 : decode cX4_leave 1 = .ok (.iload_n 1, 1) := by decide +kernel
theorem dX4_leave_2 : decode cX4_leave 2 = .ok (.iload_n 2, 1) := by decide +kernel
theorem dX4_leave_3 : decode cX4_leave 3 = .ok (.invokevirtual 116, 3) := by decide +kernel
theorem dX4_leave_6 : decode cX4_leave 6 = .ok (.aload_n 0, 1) := by decide +kernel
theorem dX4_leave_7 : decode cX4_leave 7 = .ok (.getfield 20, 3) := by decide +kernel
theorem dX4_leave_10 : decode cX4_leave 10 = .ok (.iload_n 1, 1) := by decide +kernel
theorem dX4_leave_11 : decode cX4_leave 11 = .ok (.iload_n 2, 1) := by decide +kernel
theorem dX4_leave_12 : decode cX4_leave 12 = .ok (.invokevirtual 120, 3) := by decide +kernel
theorem dX4_leave_15 : decode cX4_leave 15 = .ok (.ifCond .ne 13, 3) := by decide +kernel
theorem dX4_leave_18 : decode cX4_leave 18 = .ok (.new 57, 3) := by decide +kernel
theorem dX4_leave_21 : decode cX4_leave 21 = .ok (.dup, 1) := by decide +kernel
theorem dX4_leave_22 : decode cX4_leave 22 = .ok (.ldc 134, 2) := by decide +kernel
theorem dX4_leave_24 : decode cX4_leave 24 = .ok (.invokespecial 61, 3) := by decide +kernel
theorem dX4_leave_27 : decode cX4_leave 27 = .ok (.athrow, 1) := by decide +kernel
theorem dX4_leave_28 : decode cX4_leave 28 = .ok (.aload_n 0, 1) := by decide +kernel
theorem dX4_leave_29 : decode cX4_leave 29 = .ok (.invokevirtual 62, 3) := by decide +kernel
theorem dX4_leave_32 : decode cX4_leave 32 = .ok (.aload_n 0, 1) := by decide +kernel
theorem dX4_leave_33 : decode cX4_leave 33 = .ok (.getfield 20, 3) := by decide +kernel
theorem dX4_leave_36 : decode cX4_leave 36 = .ok (.iload_n 1, 1) := by decide +kernel
theorem dX4_leave_37 : decode cX4_leave 37 = .ok (.iload_n 2, 1) := by decide +kernel
theorem dX4_leave_38 : decode cX4_leave 38 = .ok (.invokevirtual 136, 3) := by decide +kernel
theorem dX4_leave_41 : decode cX4_leave 41 = .ok (.aload_n 0, 1) := by decide +kernel
theorem dX4_leave_42 : decode cX4_leave 42 = .ok (.getfield 20, 3) := by decide +kernel
theorem dX4_leave_45 : decode cX4_leave 45 = .ok (.invokevirtual 139, 3) := by decide +kernel
theorem dX4_leave_48 : decode cX4_leave 48 = .ok (.ireturn, 1) := by decide +kernel
set_option maxRecDepth 20000 in
theorem ggX4_seatParty_X3_look : GoodIn wsX4_seatParty wsX3_look := goodIn_r _ [11, 12, 13, 14, 15, 16, 17, 18, 19, 20, 10, 21, 22, 23, 24, 25, 26, 27, 28, 29, 30, 31, 32, 33, 34, 35, 36, 37, 38, 39, 40, 41, 42, 43, 44, 45, 46, 47, 48, 49, 50, 51, 52, 53, 54, 55, 56, 57, 58, 59, 60, 61, 62, 63, 64, 65, 66, 67, 68, 69, 70, 71, 72, 73, 74, 75, 76, 77, 132, 133, 134, 135, 136, 137, 138, 139, 140, 141, 142, 143, 144, 145, 146] (by decide +kernel) (by decide +kernel)
set_option maxRecDepth 20000 in
theorem gX4_seatParty_X3_look : GoodIn wsX4_seatParty (wsV RX4 144 RX3 yX3_look wsX3_look) := goodIn_app (goodIn_of _ (by decide +kernel)) ggX4_seatParty_X3_look
set_option maxRecDepth 20000 in
theorem ggX4_seatParty_X3_placeForParty : GoodIn wsX4_seatParty wsX3_placeForParty := goodIn_r _ [81, 13, 14, 15, 82, 83, 84, 10, 85, 73, 74, 75, 76, 16, 17, 19, 20, 21, 86, 87, 88, 25, 89, 32, 90, 91, 92, 132, 133, 134, 135, 136, 137, 138, 139, 140, 141, 142, 143, 144, 145, 146] (by decide +kernel) (by decide +kernel)
set_option maxRecDepth 20000 in
theorem gX4_seatParty_X3_placeForParty : GoodIn wsX4_seatParty (wsV RX4 147 RX3 yX3_placeForParty wsX3_placeForParty) := goodIn_app (goodIn_of _ (by decide +kernel)) ggX4_seatParty_X3_placeForParty
set_option maxRecDepth 20000 in
theorem ggX4_seatParty_X4_saveState : GoodIn wsX4_seatParty wsX4_saveState := goodIn_r _ [97, 98, 6, 5, 99, 100, 101, 102, 103, 104, 105, 106, 107, 108, 109, 110, 111, 112, 25, 113, 114, 37, 115, 116, 117, 118, 50, 27, 32, 60, 65, 66, 67, 51, 119, 120, 121, 10, 122, 12, 127, 128, 129, 130, 131, 147, 148, 137, 138, 139, 140, 141, 142, 143, 144, 145, 146, 132, 133, 134, 135, 136] (by decide +kernel) (by decide +kernel)
set_option maxRecDepth 20000 in
theorem gX4_seatParty_X4_saveState : GoodIn wsX4_seatParty (wsV RX4 62 RX4 yX4_saveState wsX4_saveState) := goodIn_app (goodIn_of _ (by decide +kernel)) ggX4_seatParty_X4_saveState
set_option maxRecDepth 20000 in
theorem ggX4_seatParty_X0_occupy : GoodIn wsX4_seatParty wsX0_occupy := goodIn_r _ [126, 32, 90, 91, 25, 92, 137, 138, 139, 140, 141, 142, 143, 144, 145, 146] (by decide +kernel) (by decide +kernel)
set_option maxRecDepth 20000 in
theorem gX4_seatParty_X0_occupy : GoodIn wsX4_seatParty (wsV RX4 126 RX0 yX0_occupy wsX0_occupy) := goodIn_app (goodIn_of _ (by decide +kernel)) ggX4_seatParty_X0_occupy
theorem dX4_seatParty_0 : decode cX4_seatParty 0 = .ok (.iload_n 1, 1) := by decide +kernel
theorem dX4_seatParty_1 : decode cX4_seatParty 1 = .ok (.iconst 1, 1) := by decide +kernel
theorem dX4_seatParty_2 : decode cX4_seatParty 2 = .ok (.if_icmp .lt 9, 3) := by decide +kernel
theorem dX4_seatParty_5 : decode cX4_seatParty 5 = .ok (.iload_n 1, 1) := by decide +kernel
theorem dX4_seatParty_6 : decode cX4_seatParty 6 = .ok (.bipush 12, 2) := by decide +kernel
theorem dX4_seatParty_8 : decode cX4_seatParty 8 = .ok (.if_icmp .le 13, 3) := by decide +kernel
theorem dX4_seatParty_11 : decode cX4_seatParty 11 = .ok (.new 38, 3) := by decide +kernel
theorem dX4_seatParty_14 : decode cX4_seatParty 14 = .ok (.dup, 1) := by decide +kernel
theorem dX4_seatParty_15 : decode cX4_seatParty 15 = .ok (.ldc 142, 2) := by decide +kernel
theorem dX4_seatParty_17 : decode cX4_seatParty 17 = .ok (.invokespecial 42, 3) := by decide +kernel
theorem dX4_seatParty_20 : decode cX4_seatParty 20 = .ok (.athrow, 1) := by decide +kernel
theorem dX4_seatParty_21 : decode cX4_seatParty 21 = .ok (.aload_n 0, 1) := by decide +kernel
theorem dX4_seatParty_22 : decode cX4_seatParty 22 = .ok (.getfield 10, 3) := by decide +kernel
theorem dX4_seatParty_25 : decode cX4_seatParty 25 = .ok (.invokevirtual 144, 3) := by decide +kernel
theorem dX4_seatParty_28 : decode cX4_seatParty 28 = .ok (.aload_n 0, 1) := by decide +kernel
theorem dX4_seatParty_29 : decode cX4_seatParty 29 = .ok (.getfield 10, 3) := by decide +kernel
theorem dX4_seatParty_32 : decode cX4_seatParty 32 = .ok (.iload_n 1, 1) := by decide +kernel
theorem dX4_seatParty_33 : decode cX4_seatParty 33 = .ok (.invokevirtual 147, 3) := by decide +kernel
theorem dX4_seatParty_36 : decode cX4_seatParty 36 = .ok (.istore_n 2, 1) := by decide +kernel
theorem dX4_seatParty_37 : decode cX4_seatParty 37 = .ok (.iload_n 2, 1) := by decide +kernel
theorem dX4_seatParty_38 : decode cX4_seatParty 38 = .ok (.iconst (-1), 1) := by decide +kernel
theorem dX4_seatParty_39 : decode cX4_seatParty 39 = .ok (.if_icmp .ne 13, 3) := by decide +kernel
theorem dX4_seatParty_42 : decode cX4_seatParty 42 = .ok (.new 57, 3) := by decide +kernel
theorem dX4_seatParty_45 : decode cX4_seatParty 45 = .ok (.dup, 1) := by decide +kernel
theorem dX4_seatParty_46 : decode cX4_seatParty 46 = .ok (.ldc 151, 2) := by decide +kernel
theorem dX4_seatParty_48 : decode cX4_seatParty 48 = .ok (.invokespecial 61, 3) := by decide +kernel
theorem dX4_seatParty_51 : decode cX4_seatParty 51 = .ok (.athrow, 1) := by decide +kernel
theorem dX4_seatParty_52 : decode cX4_seatParty 52 = .ok (.aload_n 0, 1) := by decide +kernel
theorem dX4_seatParty_53 : decode cX4_seatParty 53 = .ok (.invokevirtual 62, 3) := by decide +kernel
theorem dX4_seatParty_56 : decode cX4_seatParty 56 = .ok (.aload_n 0, 1) := by decide +kernel
theorem dX4_seatParty_57 : decode cX4_seatParty 57 = .ok (.getfield 20, 3) := by decide +kernel
theorem dX4_seatParty_60 : decode cX4_seatParty 60 = .ok (.iload_n 2, 1) := by decide +kernel
theorem dX4_seatParty_61 : decode cX4_seatParty 61 = .ok (.bipush 100, 2) := by decide +kernel
theorem dX4_seatParty_63 : decode cX4_seatParty 63 = .ok (.idiv, 1) := by decide +kernel
theorem dX4_seatParty_64 : decode cX4_seatParty 64 = .ok (.iload_n 2, 1) := by decide +kernel
theorem dX4_seatParty_65 : decode cX4_seatParty 65 = .ok (.bipush 100, 2) := by decide +kernel
theorem dX4_seatParty_67 : decode cX4_seatParty 67 = .ok (.irem, 1) := by decide +kernel
theorem dX4_seatParty_68 : decode cX4_seatParty 68 = .ok (.iload_n 1, 1) := by decide +kernel
theorem dX4_seatParty_69 : decode cX4_seatParty 69 = .ok (.invokevirtual 126, 3) := by decide +kernel
theorem dX4_seatParty_72 : decode cX4_seatParty 72 = .ok (.iload_n 2, 1) := by decide +kernel
theorem dX4_seatParty_73 : decode cX4_seatParty 73 = .ok (.ireturn, 1) := by decide +kernel
set_option maxRecDepth 20000 in
theorem ggX4_clear_X4_saveState : GoodIn wsX4_clear wsX4_saveState := goodIn_r _ [6, 7, 1, 8, 9, 10, 11, 12, 13, 14, 15, 16, 17, 18, 19, 20, 21, 22, 23, 24, 25, 26, 27, 28, 29, 30, 31, 32, 33, 34, 35, 36, 37, 38, 39, 40, 41, 42, 43, 44, 64, 65, 66, 67, 68, 69, 70, 71, 72, 73, 74, 75, 76, 77, 78, 79, 80, 81, 82, 83, 84, 85] (by decide +kernel) (by decide +kernel)
set_option maxRecDepth 20000 in
theorem gX4_clear_X4_saveState : GoodIn wsX4_clear (wsV RX4 62 RX4 yX4_saveState wsX4_saveState) := goodIn_app (goodIn_of _ (by decide +kernel)) ggX4_clear_X4_saveState
set_option maxRecDepth 20000 in
theorem ggX4_clear_X0_takenInAll : GoodIn wsX4_clear wsX0_takenInAll := goodIn_r _ [48, 25, 49, 50, 51, 23, 52, 33, 53, 54, 55, 56, 57, 58, 59, 71, 72, 73, 74, 75, 76, 77, 78, 79, 80] (by decide +kernel) (by decide +kernel)
set_option maxRecDepth 20000 in
theorem gX4_clear_X0_takenInAll : GoodIn wsX4_clear (wsV RX4 139 RX0 yX0_takenInAll wsX0_takenInAll) := goodIn_app (goodIn_of _ (by decide +kernel)) ggX4_clear_X0_takenInAll
set_option maxRecDepth 20000 in
theorem ggX4_clear_X0_vacateAll : GoodIn wsX4_clear wsX0_vacateAll := goodIn_r _ [63, 25, 33, 71, 72, 73, 74, 75, 76, 77, 78, 79, 80] (by decide +kernel) (by decide +kernel)
set_option maxRecDepth 20000 in
theorem gX4_clear_X0_vacateAll : GoodIn wsX4_clear (wsV RX4 153 RX0 yX0_vacateAll wsX0_vacateAll) := goodIn_app (goodIn_of _ (by decide +kernel)) ggX4_clear_X0_vacateAll
theorem dX4_clear_0 : decode cX4_clear 0 = .ok (.aload_n 0, 1) := by decide +kernel
theorem dX4_clear_1 : decode cX4_clear 1 = .ok (.invokevirtual 62, 3) := by decide +kernel
theorem dX4_clear_4 : decode cX4_clear 4 = .ok (.aload_n 0, 1) := by decide +kernel
theorem dX4_clear_5 : decode cX4_clear 5 = .ok (.getfield 20, 3) := by decide +kernel
theorem dX4_clear_8 : decode cX4_clear 8 = .ok (.invokevirtual 139, 3) := by decide +kernel
theorem dX4_clear_11 : decode cX4_clear 11 = .ok (.istore_n 1, 1) := by decide +kernel
theorem dX4_clear_12 : decode cX4_clear 12 = .ok (.aload_n 0, 1) := by decide +kernel
theorem dX4_clear_13 : decode cX4_clear 13 = .ok (.getfield 20, 3) := by decide +kernel
theorem dX4_clear_16 : decode cX4_clear 16 = .ok (.invokevirtual 153, 3) := by decide +kernel
theorem dX4_clear_19 : decode cX4_clear 19 = .ok (.iload_n 1, 1) := by decide +kernel
theorem dX4_clear_20 : decode cX4_clear 20 = .ok (.ireturn, 1) := by decide +kernel
set_option maxRecDepth 20000 in
theorem ggX4_row_X4_checkRow : GoodIn wsX4_row wsX4_checkRow := goodIn_ca (goodIn_r _ [6, 7, 8, 9, 10, 113, 114, 115, 116, 117, 118, 119, 120, 121, 122, 123, 124, 125, 126, 127] (by decide +kernel) (by decide +kernel)) (goodIn_sub (fun _ h => List.mem_cons_of_mem _ (List.mem_append_left _ (List.mem_append_right _ h))) (by decide +kernel))
set_option maxRecDepth 20000 in
theorem gX4_row_X4_checkRow : GoodIn wsX4_row (wsV RX4 69 RX4 yX4_checkRow wsX4_checkRow) := goodIn_app (goodIn_of _ (by decide +kernel)) ggX4_row_X4_checkRow
set_option maxRecDepth 20000 in
theorem ggX4_row_X4_checkWhat : GoodIn wsX4_row wsX4_checkWhat := goodIn_ca (goodIn_r _ [13, 14, 15] (by decide +kernel) (by decide +kernel)) (goodIn_sub (fun _ h => List.mem_cons_of_mem _ (List.mem_append_right _ h)) (by decide +kernel))
set_option maxRecDepth 20000 in
theorem gX4_row_X4_checkWhat : GoodIn wsX4_row (va_wsS RX4 206 yX4_checkWhat wsX4_checkWhat) := goodIn_app (goodIn_of _ (by decide +kernel)) ggX4_row_X4_checkWhat
set_option maxRecDepth 20000 in
theorem ggX4_row_X3_look : GoodIn wsX4_row wsX3_look := goodIn_r _ [20, 21, 22, 23, 24, 25, 26, 27, 28, 29, 19, 30, 31, 32, 33, 34, 35, 36, 37, 38, 39, 40, 41, 42, 43, 44, 45, 46, 47, 48, 49, 50, 51, 52, 53, 54, 55, 56, 57, 58, 59, 60, 61, 62, 63, 64, 65, 66, 67, 68, 69, 70, 71, 72, 73, 74, 75, 76, 77, 78, 79, 80, 81, 82, 83, 84, 85, 86, 128, 129, 130, 131, 132, 118, 119, 120, 121, 122, 123, 124, 125, 126, 127] (by decide +kernel) (by decide +kernel)
set_option maxRecDepth 20000 in
theorem gX4_row_X3_look : GoodIn wsX4_row (wsV RX4 144 RX3 yX3_look wsX3_look) := goodIn_app (goodIn_of _ (by decide +kernel)) ggX4_row_X3_look
set_option maxRecDepth 20000 in
theorem ggX4_row_X4_rowProperty : GoodIn wsX4_row wsX4_rowProperty := goodIn_r _ [90, 9, 91, 92, 93, 1, 94, 95, 96, 34, 97, 41, 98, 99, 100, 101, 102, 103, 104, 105, 106, 107, 19, 108, 22, 24, 109, 110, 111, 112, 82, 83, 84, 85, 25, 26, 28, 29, 30, 113, 114, 115, 116, 117, 118, 119, 120, 121, 122, 123, 124, 125, 126, 127, 128, 129, 130, 131, 132] (by decide +kernel) (by decide +kernel)
set_option maxRecDepth 20000 in
theorem gX4_row_X4_rowProperty : GoodIn wsX4_row (wsV RX4 209 RX4 yX4_rowProperty wsX4_rowProperty) := goodIn_app (goodIn_of _ (by decide +kernel)) ggX4_row_X4_rowProperty
theorem dX4_row_0 : decode cX4_row 0 = .ok (.aload_n 0, 1) := by decide +kernel
theorem dX4_row_1 : decode cX4_row 1 = .ok (.iload_n 1, 1) := by decide +kernel
theorem dX4_row_2 : decode cX4_row 2 = .ok (.invokevirtual 69, 3) := by decide +kernel
theorem dX4_row_5 : decode cX4_row 5 = .ok (.iload_n 2, 1) := by decide +kernel
theorem dX4_row_6 : decode cX4_row 6 = .ok (.bipush 6, 2) := by decide +kernel
theorem dX4_row_8 : decode cX4_row 8 = .ok (.invokestatic 206, 3) := by decide +kernel
theorem dX4_row_11 : decode cX4_row 11 = .ok (.aload_n 0, 1) := by decide +kernel
theorem dX4_row_12 : decode cX4_row 12 = .ok (.getfield 10, 3) := by decide +kernel
theorem dX4_row_15 : decode cX4_row 15 = .ok (.invokevirtual 144, 3) := by decide +kernel
theorem dX4_row_18 : decode cX4_row 18 = .ok (.aload_n 0, 1) := by decide +kernel
theorem dX4_row_19 : decode cX4_row 19 = .ok (.iload_n 1, 1) := by decide +kernel
theorem dX4_row_20 : decode cX4_row 20 = .ok (.iload_n 2, 1) := by decide +kernel
theorem dX4_row_21 : decode cX4_row 21 = .ok (.invokevirtual 209, 3) := by decide +kernel
theorem dX4_row_24 : decode cX4_row 24 = .ok (.ireturn, 1) := by decide +kernel
set_option maxRecDepth 20000 in
theorem ggX4_seat_X4_checkSeat : GoodIn wsX4_seat wsX4_checkSeat := goodIn_ca (goodIn_r _ [6, 7, 8, 9, 10, 11, 12, 13, 5, 14, 15, 115, 116, 117, 118, 119, 120, 121, 122, 123, 124, 125, 126, 127, 128, 129] (by decide +kernel) (by decide +kernel)) (goodIn_sub (fun _ h => List.mem_cons_of_mem _ (List.mem_append_left _ (List.mem_append_right _ h))) (by decide +kernel))
set_option maxRecDepth 20000 in
theorem gX4_seat_X4_checkSeat : GoodIn wsX4_seat (wsV RX4 116 RX4 yX4_checkSeat wsX4_checkSeat) := goodIn_app (goodIn_of _ (by decide +kernel)) ggX4_seat_X4_checkSeat
set_option maxRecDepth 20000 in
theorem ggX4_seat_X4_checkWhat : GoodIn wsX4_seat wsX4_checkWhat := goodIn_ca (goodIn_r _ [18, 19, 20] (by decide +kernel) (by decide +kernel)) (goodIn_sub (fun _ h => List.mem_cons_of_mem _ (List.mem_append_right _ h)) (by decide +kernel))
set_option maxRecDepth 20000 in
theorem gX4_seat_X4_checkWhat : GoodIn wsX4_seat (va_wsS RX4 206 yX4_checkWhat wsX4_checkWhat) := goodIn_app (goodIn_of _ (by decide +kernel)) ggX4_seat_X4_checkWhat
set_option maxRecDepth 20000 in
theorem ggX4_seat_X3_look : GoodIn wsX4_seat wsX3_look := goodIn_r _ [25, 26, 27, 28, 29, 30, 31, 32, 33, 34, 24, 35, 36, 37, 38, 39, 40, 41, 42, 43, 44, 45, 46, 47, 48, 49, 50, 51, 52, 53, 54, 55, 56, 57, 58, 59, 60, 61, 62, 63, 64, 65, 66, 67, 68, 69, 70, 71, 72, 73, 74, 75, 76, 77, 78, 79, 80, 81, 82, 83, 84, 85, 86, 87, 88, 89, 90, 91, 130, 131, 132, 133, 134, 120, 121, 122, 123, 124, 125, 126, 127, 128, 129] (by decide +kernel) (by decide +kernel)
set_option maxRecDepth 20000 in
theorem gX4_seat_X3_look : GoodIn wsX4_seat (wsV RX4 144 RX3 yX3_look wsX3_look) := goodIn_app (goodIn_of _ (by decide +kernel)) ggX4_seat_X3_look
set_option maxRecDepth 20000 in
theorem ggX4_seat_X4_seatProperty : GoodIn wsX4_seat wsX4_seatProperty := goodIn_r _ [95, 9, 1, 96, 97, 98, 57, 58, 39, 59, 41, 99, 43, 44, 45, 46, 100, 34, 24, 35, 101, 102, 103, 104, 87, 88, 89, 90, 30, 31, 33, 105, 106, 107, 108, 109, 42, 47, 48, 49, 50, 51, 52, 53, 54, 55, 56, 60, 61, 62, 63, 64, 65, 66, 67, 68, 69, 110, 111, 112, 113, 32, 27, 28, 29, 114, 115, 116, 117, 118, 119, 130, 131, 132, 133, 134, 120, 121, 122, 123, 124, 125, 126, 127, 128, 129] (by decide +kernel) (by decide +kernel)
set_option maxRecDepth 20000 in
theorem gX4_seat_X4_seatProperty : GoodIn wsX4_seat (wsV RX4 212 RX4 yX4_seatProperty wsX4_seatProperty) := goodIn_app (goodIn_of _ (by decide +kernel)) ggX4_seat_X4_seatProperty
theorem dX4_seat_0 : decode cX4_seat 0 = .ok (.aload_n 0, 1) := by decide +kernel
theorem dX4_seat_1 : decode cX4_seat 1 = .ok (.iload_n 1, 1) := by decide +kernel
theorem dX4_seat_2 : decode cX4_seat 2 = .ok (.iload_n 2, 1) := by decide +kernel
theorem dX4_seat_3 : decode cX4_seat 3 = .ok (.invokevirtual 116, 3) := by decide +kernel
theorem dX4_seat_6 : decode cX4_seat 6 = .ok (.iload_n 3, 1) := by decide +kernel
theorem dX4_seat_7 : decode cX4_seat 7 = .ok (.bipush 7, 2) := by decide +kernel
theorem dX4_seat_9 : decode cX4_seat 9 = .ok (.invokestatic 206, 3) := by decide +kernel
theorem dX4_seat_12 : decode cX4_seat 12 = .ok (.aload_n 0, 1) := by decide +kernel
theorem dX4_seat_13 : decode cX4_seat 13 = .ok (.getfield 10, 3) := by decide +kernel
theorem dX4_seat_16 : decode cX4_seat 16 = .ok (.invokevirtual 144, 3) := by decide +kernel
theorem dX4_seat_19 : decode cX4_seat 19 = .ok (.aload_n 0, 1) := by decide +kernel
theorem dX4_seat_20 : decode cX4_seat 20 = .ok (.iload_n 1, 1) := by decide +kernel
theorem dX4_seat_21 : decode cX4_seat 21 = .ok (.iload_n 2, 1) := by decide +kernel
theorem dX4_seat_22 : decode cX4_seat 22 = .ok (.iload_n 3, 1) := by decide +kernel
theorem dX4_seat_23 : decode cX4_seat 23 = .ok (.invokevirtual 212, 3) := by decide +kernel
theorem dX4_seat_26 : decode cX4_seat 26 = .ok (.ireturn, 1) := by decide +kernel
set_option maxRecDepth 20000 in
theorem ggX4_column_X4_checkColumn : GoodIn wsX4_column wsX4_checkColumn := goodIn_ca (goodIn_r _ [5, 6, 7, 8, 9, 45, 46, 47, 48, 49, 50, 51, 52, 53, 54, 55, 56, 57, 58, 59] (by decide +kernel) (by decide +kernel)) (goodIn_sub (fun _ h => List.mem_cons_of_mem _ (List.mem_append_left _ (List.mem_append_right _ h))) (by decide +kernel))
set_option maxRecDepth 20000 in
theorem gX4_column_X4_checkColumn : GoodIn wsX4_column (wsV RX4 96 RX4 yX4_checkColumn wsX4_checkColumn) := goodIn_app (goodIn_of _ (by decide +kernel)) ggX4_column_X4_checkColumn
set_option maxRecDepth 20000 in
theorem ggX4_column_X4_checkWhat : GoodIn wsX4_column wsX4_checkWhat := goodIn_ca (goodIn_r _ [12, 13, 14] (by decide +kernel) (by decide +kernel)) (goodIn_sub (fun _ h => List.mem_cons_of_mem _ (List.mem_append_right _ h)) (by decide +kernel))
set_option maxRecDepth 20000 in
theorem gX4_column_X4_checkWhat : GoodIn wsX4_column (va_wsS RX4 206 yX4_checkWhat wsX4_checkWhat) := goodIn_app (goodIn_of _ (by decide +kernel)) ggX4_column_X4_checkWhat
set_option maxRecDepth 20000 in
theorem ggX4_column_X4_columnProperty : GoodIn wsX4_column wsX4_columnProperty := goodIn_r _ [18, 8, 19, 20, 21, 22, 23, 24, 25, 26, 27, 28, 29, 30, 31, 32, 33, 34, 35, 36, 37, 38, 39, 40, 41, 42, 43, 44, 45, 46, 47, 48, 49, 50, 51, 52, 53, 54, 55, 56, 57, 58, 59] (by decide +kernel) (by decide +kernel)
set_option maxRecDepth 20000 in
theorem gX4_column_X4_columnProperty : GoodIn wsX4_column (wsV RX4 215 RX4 yX4_columnProperty wsX4_columnProperty) := goodIn_app (goodIn_of _ (by decide +kernel)) ggX4_column_X4_columnProperty
theorem dX4_column_0 : decode cX4_column 0 = .ok (.aload_n 0, 1) := by decide +kernel
theorem dX4_column_1 : decode cX4_column 1 = .ok (.iload_n 1, 1) := by decide +kernel
theorem dX4_column_2 : decode cX4_column 2 = .ok (.invokevirtual 96, 3) := by decide +kernel
theorem dX4_column_5 : decode cX4_column 5 = .ok (.iload_n 2, 1) := by decide +kernel
theorem dX4_column_6 : decode cX4_column 6 = .ok (.iconst 4, 1) := by decide +kernel
theorem dX4_column_7 : decode cX4_column 7 = .ok (.invokestatic 206, 3) := by decide +kernel
theorem dX4_column_10 : decode cX4_column 10 = .ok (.aload_n 0, 1) := by decide +kernel
theorem dX4_column_11 : decode cX4_column 11 = .ok (.iload_n 1, 1) := by decide +kernel
theorem dX4_column_12 : decode cX4_column 12 = .ok (.iload_n 2, 1) := by decide +kernel
theorem dX4_column_13 : decode cX4_column 13 = .ok (.invokevirtual 215, 3) := by decide +kernel
theorem dX4_column_16 : decode cX4_column 16 = .ok (.ireturn, 1) := by decide +kernel
set_option maxRecDepth 20000 in
theorem ggX4_count_X4_checkWhat : GoodIn wsX4_count wsX4_checkWhat := goodIn_ca (goodIn_r _ [5, 6, 7] (by decide +kernel) (by decide +kernel)) (goodIn_sub (fun _ h => List.mem_cons_of_mem _ (List.mem_append_right _ h)) (by decide +kernel))
set_option maxRecDepth 20000 in
theorem gX4_count_X4_checkWhat : GoodIn wsX4_count (va_wsS RX4 206 yX4_checkWhat wsX4_checkWhat) := goodIn_app (goodIn_of _ (by decide +kernel)) ggX4_count_X4_checkWhat
set_option maxRecDepth 20000 in
theorem ggX4_count_X3_look : GoodIn wsX4_count wsX3_look := goodIn_r _ [12, 13, 14, 15, 16, 17, 18, 19, 20, 21, 11, 22, 23, 24, 25, 26, 27, 28, 29, 30, 31, 32, 33, 34, 35, 36, 37, 38, 39, 40, 41, 42, 43, 44, 45, 46, 47, 48, 49, 50, 51, 52, 53, 54, 55, 56, 57, 58, 59, 60, 61, 62, 63, 64, 65, 66, 67, 68, 69, 70, 71, 72, 73, 74, 75, 76, 77, 78, 141, 142, 143, 144, 145, 146, 147, 148, 149, 150, 151, 152, 153, 154, 155] (by decide +kernel) (by decide +kernel)
set_option maxRecDepth 20000 in
theorem gX4_count_X3_look : GoodIn wsX4_count (wsV RX4 144 RX3 yX3_look wsX3_look) := goodIn_app (goodIn_of _ (by decide +kernel)) ggX4_count_X3_look
set_option maxRecDepth 20000 in
theorem ggX4_count_X4_numberOf : GoodIn wsX4_count wsX4_numberOf := goodIn_r _ [82, 83, 84, 85, 1, 86, 87, 88, 89, 90, 26, 91, 92, 28, 93, 94, 95, 96, 97, 98, 99, 100, 33, 101, 102, 103, 104, 105, 106, 107, 108, 109, 110, 11, 111, 14, 15, 112, 113, 114, 115, 16, 116, 117, 118, 119, 74, 75, 76, 77, 17, 18, 20, 21, 22, 120, 121, 122, 123, 124, 30, 31, 32, 125, 126, 127, 128, 129, 130, 131, 132, 133, 134, 41, 135, 29, 136, 137, 138, 139, 140, 146, 147, 148, 149, 150, 151, 152, 153, 154, 155, 156, 157, 141, 142, 143, 144, 145] (by decide +kernel) (by decide +kernel)
set_option maxRecDepth 20000 in
theorem gX4_count_X4_numberOf : GoodIn wsX4_count (wsV RX4 226 RX4 yX4_numberOf wsX4_numberOf) := goodIn_app (goodIn_of _ (by decide +kernel)) ggX4_count_X4_numberOf
theorem dX4_count_0 : decode cX4_count 0 = .ok (.iload_n 1, 1) := by decide +kernel
theorem dX4_count_1 : decode cX4_count 1 = .ok (.bipush 9, 2) := by decide +kernel
theorem dX4_count_3 : decode cX4_count 3 = .ok (.invokestatic 206, 3) := by decide +kernel
theorem dX4_count_6 : decode cX4_count 6 = .ok (.aload_n 0, 1) := by decide +kernel
theorem dX4_count_7 : decode cX4_count 7 = .ok (.getfield 10, 3) := by decide +kernel
theorem dX4_count_10 : decode cX4_count 10 = .ok (.invokevirtual 144, 3) := by decide +kernel
theorem dX4_count_13 : decode cX4_count 13 = .ok (.aload_n 0, 1) := by decide +kernel
theorem dX4_count_14 : decode cX4_count 14 = .ok (.iload_n 1, 1) := by decide +kernel
theorem dX4_count_15 : decode cX4_count 15 = .ok (.invokevirtual 226, 3) := by decide +kernel
theorem dX4_count_18 : decode cX4_count 18 = .ok (.ireturn, 1) := by decide +kernel
set_option maxRecDepth 20000 in
theorem ggX4_saveState_X1_keep : GoodIn wsX4_saveState wsX1_keep := goodIn_r _ [8, 9, 10, 11, 12, 13, 7, 14, 15, 16, 17, 18, 19, 20, 21, 22, 23, 24, 25, 26, 27, 28, 29, 30, 31, 32, 33, 45, 46, 47, 48, 49, 50, 51, 52, 53, 54, 55, 56] (by decide +kernel) (by decide +kernel)
set_option maxRecDepth 20000 in
theorem gX4_saveState_X1_keep : GoodIn wsX4_saveState (wsV RX4 260 RX1 yX1_keep wsX1_keep) := goodIn_app (goodIn_of _ (by decide +kernel)) ggX4_saveState_X1_keep
set_option maxRecDepth 20000 in
theorem ggX4_saveState_X3_forget : GoodIn wsX4_saveState wsX3_forget := goodIn_r _ [38, 39, 57, 58, 59, 60, 61] (by decide +kernel) (by decide +kernel)
set_option maxRecDepth 20000 in
theorem gX4_saveState_X3_forget : GoodIn wsX4_saveState (wsV RX4 203 RX3 yX3_forget wsX3_forget) := goodIn_app (goodIn_of _ (by decide +kernel)) ggX4_saveState_X3_forget
theorem dX4_saveState_0 : decode cX4_saveState 0 = .ok (.aload_n 0, 1) := by decide +kernel
theorem dX4_saveState_1 : decode cX4_saveState 1 = .ok (.getfield 27, 3) := by decide +kernel
theorem dX4_saveState_4 : decode cX4_saveState 4 = .ok (.aload_n 0, 1) := by decide +kernel
theorem dX4_saveState_5 : decode cX4_saveState 5 = .ok (.getfield 20, 3) := by decide +kernel
theorem dX4_saveState_8 : decode cX4_saveState 8 = .ok (.invokevirtual 260, 3) := by decide +kernel
theorem dX4_saveState_11 : decode cX4_saveState 11 = .ok (.aload_n 0, 1) := by decide +kernel
theorem dX4_saveState_12 : decode cX4_saveState 12 = .ok (.getfield 10, 3) := by decide +kernel
theorem dX4_saveState_15 : decode cX4_saveState 15 = .ok (.invokevirtual 203, 3) := by decide +kernel
theorem dX4_saveState_18 : decode cX4_saveState 18 = .ok (.return_, 1) := by decide +kernel
theorem dX4_checkRow_0 : decode cX4_checkRow 0 = .ok (.iload_n 1, 1) := by decide +kernel
theorem dX4_checkRow_1 : decode cX4_checkRow 1 = .ok (.ifCond .lt 14, 3) := by decide +kernel
theorem dX4_checkRow_4 : decode cX4_checkRow 4 = .ok (.iload_n 1, 1) := by decide +kernel
theorem dX4_checkRow_5 : decode cX4_checkRow 5 = .ok (.aload_n 0, 1) := by decide +kernel
theorem dX4_checkRow_6 : decode cX4_checkRow 6 = .ok (.getfield 20, 3) := by decide +kernel
theorem dX4_checkRow_9 : decode cX4_checkRow 9 = .ok (.getfield 156, 3) := by decide +kernel
theorem dX4_checkRow_12 : decode cX4_checkRow 12 = .ok (.if_icmp .lt 14, 3) := by decide +kernel
theorem dX4_checkRow_15 : decode cX4_checkRow 15 = .ok (.new 263, 3) := by decide +kernel
theorem dX4_checkRow_18 : decode cX4_checkRow 18 = .ok (.dup, 1) := by decide +kernel
theorem dX4_checkRow_19 : decode cX4_checkRow 19 = .ok (.ldc_w 265, 3) := by decide +kernel
theorem dX4_checkRow_22 : decode cX4_checkRow 22 = .ok (.invokespecial 267, 3) := by decide +kernel
theorem dX4_checkRow_25 : decode cX4_checkRow 25 = .ok (.athrow, 1) := by decide +kernel
theorem dX4_checkRow_26 : decode cX4_checkRow 26 = .ok (.return_, 1) := by decide +kernel
set_option maxRecDepth 20000 in
theorem ggX4_checkSeat_X4_checkRow : GoodIn wsX4_checkSeat wsX4_checkRow := goodIn_ca (goodIn_r _ [9, 1, 2, 3, 10, 11, 12, 13, 14, 15, 16, 17, 18, 19, 20, 21, 22, 23, 24, 25] (by decide +kernel) (by decide +kernel)) (goodIn_sub (fun _ h => List.mem_cons_of_mem _ (List.mem_append_right _ h)) (by decide +kernel))
set_option maxRecDepth 20000 in
theorem gX4_checkSeat_X4_checkRow : GoodIn wsX4_checkSeat (wsV RX4 69 RX4 yX4_checkRow wsX4_checkRow) := goodIn_app (goodIn_of _ (by decide +kernel)) ggX4_checkSeat_X4_checkRow
theorem dX4_checkSeat_0 : decode cX4_checkSeat 0 = .ok (.aload_n 0, 1) := by decide +kernel
theorem dX4_checkSeat_1 : decode cX4_checkSeat 1 = .ok (.iload_n 1, 1) := by decide +kernel
theorem dX4_checkSeat_2 : decode cX4_checkSeat 2 = .ok (.invokevirtual 69, 3) := by decide +kernel
theorem dX4_checkSeat_5 : decode cX4_checkSeat 5 = .ok (.iload_n 2, 1) := by decide +kernel
theorem dX4_checkSeat_6 : decode cX4_checkSeat 6 = .ok (.ifCond .lt 16, 3) := by decide +kernel
theorem dX4_checkSeat_9 : decode cX4_checkSeat 9 = .ok (.iload_n 2, 1) := by decide +kernel
theorem dX4_checkSeat_10 : decode cX4_checkSeat 10 = .ok (.aload_n 0, 1) := by decide +kernel
theorem dX4_checkSeat_11 : decode cX4_checkSeat 11 = .ok (.getfield 20, 3) := by decide +kernel
theorem dX4_checkSeat_14 : decode cX4_checkSeat 14 = .ok (.getfield 268, 3) := by decide +kernel
theorem dX4_checkSeat_17 : decode cX4_checkSeat 17 = .ok (.iload_n 1, 1) := by decide +kernel
theorem dX4_checkSeat_18 : decode cX4_checkSeat 18 = .ok (.iaload, 1) := by decide +kernel
theorem dX4_checkSeat_19 : decode cX4_checkSeat 19 = .ok (.if_icmp .lt 14, 3) := by decide +kernel
theorem dX4_checkSeat_22 : decode cX4_checkSeat 22 = .ok (.new 263, 3) := by decide +kernel
theorem dX4_checkSeat_25 : decode cX4_checkSeat 25 = .ok (.dup, 1) := by decide +kernel
theorem dX4_checkSeat_26 : decode cX4_checkSeat 26 = .ok (.ldc_w 271, 3) := by decide +kernel
theorem dX4_checkSeat_29 : decode cX4_checkSeat 29 = .ok (.invokespecial 267, 3) := by decide +kernel
theorem dX4_checkSeat_32 : decode cX4_checkSeat 32 = .ok (.athrow, 1) := by decide +kernel
theorem dX4_checkSeat_33 : decode cX4_checkSeat 33 = .ok (.return_, 1) := by decide +kernel
theorem dX4_checkColumn_0 : decode cX4_checkColumn 0 = .ok (.iload_n 1, 1) := by decide +kernel
theorem dX4_checkColumn_1 : decode cX4_checkColumn 1 = .ok (.ifCond .lt 14, 3) := by decide +kernel
theorem dX4_checkColumn_4 : decode cX4_checkColumn 4 = .ok (.iload_n 1, 1) := by decide +kernel
theorem dX4_checkColumn_5 : decode cX4_checkColumn 5 = .ok (.aload_n 0, 1) := by decide +kernel
theorem dX4_checkColumn_6 : decode cX4_checkColumn 6 = .ok (.getfield 20, 3) := by decide +kernel
theorem dX4_checkColumn_9 : decode cX4_checkColumn 9 = .ok (.getfield 87, 3) := by decide +kernel
theorem dX4_checkColumn_12 : decode cX4_checkColumn 12 = .ok (.if_icmp .lt 14, 3) := by decide +kernel
theorem dX4_checkColumn_15 : decode cX4_checkColumn 15 = .ok (.new 263, 3) := by decide +kernel
theorem dX4_checkColumn_18 : decode cX4_checkColumn 18 = .ok (.dup, 1) := by decide +kernel
theorem dX4_checkColumn_19 : decode cX4_checkColumn 19 = .ok (.ldc_w 273, 3) := by decide +kernel
theorem dX4_checkColumn_22 : decode cX4_checkColumn 22 = .ok (.invokespecial 267, 3) := by decide +kernel
theorem dX4_checkColumn_25 : decode cX4_checkColumn 25 = .ok (.athrow, 1) := by decide +kernel
theorem dX4_checkColumn_26 : decode cX4_checkColumn 26 = .ok (.return_, 1) := by decide +kernel
theorem dX4_checkSetting_0 : decode cX4_checkSetting 0 = .ok (.iload_n 0, 1) := by decide +kernel
theorem dX4_checkSetting_1 : decode cX4_checkSetting 1 = .ok (.ifCond .lt 8, 3) := by decide +kernel
theorem dX4_checkSetting_4 : decode cX4_checkSetting 4 = .ok (.iload_n 0, 1) := by decide +kernel
theorem dX4_checkSetting_5 : decode cX4_checkSetting 5 = .ok (.iconst 3, 1) := by decide +kernel
theorem dX4_checkSetting_6 : decode cX4_checkSetting 6 = .ok (.if_icmp .lt 14, 3) := by decide +kernel
theorem dX4_checkSetting_9 : decode cX4_checkSetting 9 = .ok (.new 263, 3) := by decide +kernel
theorem dX4_checkSetting_12 : decode cX4_checkSetting 12 = .ok (.dup, 1) := by decide +kernel
theorem dX4_checkSetting_13 : decode cX4_checkSetting 13 = .ok (.ldc_w 275, 3) := by decide +kernel
theorem dX4_checkSetting_16 : decode cX4_checkSetting 16 = .ok (.invokespecial 267, 3) := by decide +kernel
theorem dX4_checkSetting_19 : decode cX4_checkSetting 19 = .ok (.athrow, 1) := by decide +kernel
theorem dX4_checkSetting_20 : decode cX4_checkSetting 20 = .ok (.return_, 1) := by decide +kernel
theorem dX4_checkHeight_0 : decode cX4_checkHeight 0 = .ok (.iload_n 0, 1) := by decide +kernel
theorem dX4_checkHeight_1 : decode cX4_checkHeight 1 = .ok (.ifCond .lt 10, 3) := by decide +kernel
theorem dX4_checkHeight_4 : decode cX4_checkHeight 4 = .ok (.iload_n 0, 1) := by decide +kernel
theorem dX4_checkHeight_5 : decode cX4_checkHeight 5 = .ok (.sipush 999, 3) := by decide +kernel
theorem dX4_checkHeight_8 : decode cX4_checkHeight 8 = .ok (.if_icmp .le 14, 3) := by decide +kernel
theorem dX4_checkHeight_11 : decode cX4_checkHeight 11 = .ok (.new 38, 3) := by decide +kernel
theorem dX4_checkHeight_14 : decode cX4_checkHeight 14 = .ok (.dup, 1) := by decide +kernel
theorem dX4_checkHeight_15 : decode cX4_checkHeight 15 = .ok (.ldc_w 277, 3) := by decide +kernel
theorem dX4_checkHeight_18 : decode cX4_checkHeight 18 = .ok (.invokespecial 42, 3) := by decide +kernel
theorem dX4_checkHeight_21 : decode cX4_checkHeight 21 = .ok (.athrow, 1) := by decide +kernel
theorem dX4_checkHeight_22 : decode cX4_checkHeight 22 = .ok (.return_, 1) := by decide +kernel
theorem dX4_checkWhat_0 : decode cX4_checkWhat 0 = .ok (.iload_n 0, 1) := by decide +kernel
theorem dX4_checkWhat_1 : decode cX4_checkWhat 1 = .ok (.ifCond .lt 8, 3) := by decide +kernel
theorem dX4_checkWhat_4 : decode cX4_checkWhat 4 = .ok (.iload_n 0, 1) := by decide +kernel
theorem dX4_checkWhat_5 : decode cX4_checkWhat 5 = .ok (.iload_n 1, 1) := by decide +kernel
theorem dX4_checkWhat_6 : decode cX4_checkWhat 6 = .ok (.if_icmp .lt 14, 3) := by decide +kernel
theorem dX4_checkWhat_9 : decode cX4_checkWhat 9 = .ok (.new 38, 3) := by decide +kernel
theorem dX4_checkWhat_12 : decode cX4_checkWhat 12 = .ok (.dup, 1) := by decide +kernel
theorem dX4_checkWhat_13 : decode cX4_checkWhat 13 = .ok (.ldc_w 279, 3) := by decide +kernel
theorem dX4_checkWhat_16 : decode cX4_checkWhat 16 = .ok (.invokespecial 42, 3) := by decide +kernel
theorem dX4_checkWhat_19 : decode cX4_checkWhat 19 = .ok (.athrow, 1) := by decide +kernel
theorem dX4_checkWhat_20 : decode cX4_checkWhat 20 = .ok (.return_, 1) := by decide +kernel
set_option maxRecDepth 20000 in
theorem ggX4_rowProperty_X0_takenInRow : GoodIn wsX4_rowProperty wsX0_takenInRow := goodIn_r _ [10, 11, 12, 13, 14, 15, 16, 17, 18, 44, 45, 46, 47, 48, 49, 50, 51, 52, 53] (by decide +kernel) (by decide +kernel)
set_option maxRecDepth 20000 in
theorem gX4_rowProperty_X0_takenInRow : GoodIn wsX4_rowProperty (wsV RX4 284 RX0 yX0_takenInRow wsX0_takenInRow) := goodIn_app (goodIn_of _ (by decide +kernel)) ggX4_rowProperty_X0_takenInRow
set_option maxRecDepth 20000 in
theorem ggX4_rowProperty_X3_seeingInRow : GoodIn wsX4_rowProperty wsX3_seeingInRow := goodIn_r _ [23, 24, 25, 26, 27, 28, 22, 29, 30, 31, 32, 33, 34, 35, 36, 37, 38, 54, 55, 56, 57, 58, 44, 45, 46, 47, 48, 49, 50, 51, 52, 53] (by decide +kernel) (by decide +kernel)
set_option maxRecDepth 20000 in
theorem gX4_rowProperty_X3_seeingInRow : GoodIn wsX4_rowProperty (wsV RX4 287 RX3 yX3_seeingInRow wsX3_seeingInRow) := goodIn_app (goodIn_of _ (by decide +kernel)) ggX4_rowProperty_X3_seeingInRow
theorem dX4_rowProperty_0 : decode cX4_rowProperty 0 = .ok (.iload_n 2, 1) := by decide +kernel
theorem dX4_rowProperty_1 : decode cX4_rowProperty 1 = .ok (.tableswitch 83 0 4 #[35, 45, 55, 65, 74], 35) := by decide +kernel
theorem dX4_rowProperty_36 : decode cX4_rowProperty 36 = .ok (.aload_n 0, 1) := by decide +kernel
theorem dX4_rowProperty_37 : decode cX4_rowProperty 37 = .ok (.getfield 20, 3) := by decide +kernel
theorem dX4_rowProperty_40 : decode cX4_rowProperty 40 = .ok (.getfield 281, 3) := by decide +kernel
theorem dX4_rowProperty_43 : decode cX4_rowProperty 43 = .ok (.iload_n 1, 1) := by decide +kernel
theorem dX4_rowProperty_44 : decode cX4_rowProperty 44 = .ok (.iaload, 1) := by decide +kernel
theorem dX4_rowProperty_45 : decode cX4_rowProperty 45 = .ok (.ireturn, 1) := by decide +kernel
theorem dX4_rowProperty_46 : decode cX4_rowProperty 46 = .ok (.aload_n 0, 1) := by decide +kernel
theorem dX4_rowProperty_47 : decode cX4_rowProperty 47 = .ok (.getfield 20, 3) := by decide +kernel
theorem dX4_rowProperty_50 : decode cX4_rowProperty 50 = .ok (.getfield 79, 3) := by decide +kernel
theorem dX4_rowProperty_53 : decode cX4_rowProperty 53 = .ok (.iload_n 1, 1) := by decide +kernel
theorem dX4_rowProperty_54 : decode cX4_rowProperty 54 = .ok (.iaload, 1) := by decide +kernel
theorem dX4_rowProperty_55 : decode cX4_rowProperty 55 = .ok (.ireturn, 1) := by decide +kernel
theorem dX4_rowProperty_56 : decode cX4_rowProperty 56 = .ok (.aload_n 0, 1) := by decide +kernel
theorem dX4_rowProperty_57 : decode cX4_rowProperty 57 = .ok (.getfield 20, 3) := by decide +kernel
theorem dX4_rowProperty_60 : decode cX4_rowProperty 60 = .ok (.getfield 268, 3) := by decide +kernel
theorem dX4_rowProperty_63 : decode cX4_rowProperty 63 = .ok (.iload_n 1, 1) := by decide +kernel
theorem dX4_rowProperty_64 : decode cX4_rowProperty 64 = .ok (.iaload, 1) := by decide +kernel
theorem dX4_rowProperty_65 : decode cX4_rowProperty 65 = .ok (.ireturn, 1) := by decide +kernel
theorem dX4_rowProperty_66 : decode cX4_rowProperty 66 = .ok (.aload_n 0, 1) := by decide +kernel
theorem dX4_rowProperty_67 : decode cX4_rowProperty 67 = .ok (.getfield 20, 3) := by decide +kernel
theorem dX4_rowProperty_70 : decode cX4_rowProperty 70 = .ok (.iload_n 1, 1) := by decide +kernel
theorem dX4_rowProperty_71 : decode cX4_rowProperty 71 = .ok (.invokevirtual 284, 3) := by decide +kernel
theorem dX4_rowProperty_74 : decode cX4_rowProperty 74 = .ok (.ireturn, 1) := by decide +kernel
theorem dX4_rowProperty_75 : decode cX4_rowProperty 75 = .ok (.aload_n 0, 1) := by decide +kernel
theorem dX4_rowProperty_76 : decode cX4_rowProperty 76 = .ok (.getfield 10, 3) := by decide +kernel
theorem dX4_rowProperty_79 : decode cX4_rowProperty 79 = .ok (.iload_n 1, 1) := by decide +kernel
theorem dX4_rowProperty_80 : decode cX4_rowProperty 80 = .ok (.invokevirtual 287, 3) := by decide +kernel
theorem dX4_rowProperty_83 : decode cX4_rowProperty 83 = .ok (.ireturn, 1) := by decide +kernel
theorem dX4_rowProperty_84 : decode cX4_rowProperty 84 = .ok (.iload_n 1, 1) := by decide +kernel
theorem dX4_rowProperty_85 : decode cX4_rowProperty 85 = .ok (.ifCond .ne 15, 3) := by decide +kernel
theorem dX4_rowProperty_88 : decode cX4_rowProperty 88 = .ok (.aload_n 0, 1) := by decide +kernel
theorem dX4_rowProperty_89 : decode cX4_rowProperty 89 = .ok (.getfield 20, 3) := by decide +kernel
theorem dX4_rowProperty_92 : decode cX4_rowProperty 92 = .ok (.getfield 79, 3) := by decide +kernel
theorem dX4_rowProperty_95 : decode cX4_rowProperty 95 = .ok (.iload_n 1, 1) := by decide +kernel
theorem dX4_rowProperty_96 : decode cX4_rowProperty 96 = .ok (.iaload, 1) := by decide +kernel
theorem dX4_rowProperty_97 : decode cX4_rowProperty 97 = .ok (.goto 24, 3) := by decide +kernel
theorem dX4_rowProperty_100 : decode cX4_rowProperty 100 = .ok (.aload_n 0, 1) := by decide +kernel
theorem dX4_rowProperty_101 : decode cX4_rowProperty 101 = .ok (.getfield 20, 3) := by decide +kernel
theorem dX4_rowProperty_104 : decode cX4_rowProperty 104 = .ok (.getfield 79, 3) := by decide +kernel
theorem dX4_rowProperty_107 : decode cX4_rowProperty 107 = .ok (.iload_n 1, 1) := by decide +kernel
theorem dX4_rowProperty_108 : decode cX4_rowProperty 108 = .ok (.iaload, 1) := by decide +kernel
theorem dX4_rowProperty_109 : decode cX4_rowProperty 109 = .ok (.aload_n 0, 1) := by decide +kernel
theorem dX4_rowProperty_110 : decode cX4_rowProperty 110 = .ok (.getfield 20, 3) := by decide +kernel
theorem dX4_rowProperty_113 : decode cX4_rowProperty 113 = .ok (.getfield 79, 3) := by decide +kernel
theorem dX4_rowProperty_116 : decode cX4_rowProperty 116 = .ok (.iload_n 1, 1) := by decide +kernel
theorem dX4_rowProperty_117 : decode cX4_rowProperty 117 = .ok (.iconst 1, 1) := by decide +kernel
theorem dX4_rowProperty_118 : decode cX4_rowProperty 118 = .ok (.isub, 1) := by decide +kernel
theorem dX4_rowProperty_119 : decode cX4_rowProperty 119 = .ok (.iaload, 1) := by decide +kernel
theorem dX4_rowProperty_120 : decode cX4_rowProperty 120 = .ok (.isub, 1) := by decide +kernel
theorem dX4_rowProperty_121 : decode cX4_rowProperty 121 = .ok (.ireturn, 1) := by decide +kernel
set_option maxRecDepth 20000 in
theorem ggX4_seatProperty_X0_sideOf : GoodIn wsX4_seatProperty wsX0_sideOf := goodIn_r _ [9, 10, 76, 77, 78, 79, 80, 81, 82, 83, 84, 85] (by decide +kernel) (by decide +kernel)
set_option maxRecDepth 20000 in
theorem gX4_seatProperty_X0_sideOf : GoodIn wsX4_seatProperty (wsV RX4 290 RX0 yX0_sideOf wsX0_sideOf) := goodIn_app (goodIn_of _ (by decide +kernel)) ggX4_seatProperty_X0_sideOf
set_option maxRecDepth 20000 in
theorem ggX4_seatProperty_X0_isTaken : GoodIn wsX4_seatProperty wsX0_isTaken := goodIn_r _ [14, 15, 76, 77, 78, 79, 80, 81, 82, 83, 84, 85] (by decide +kernel) (by decide +kernel)
set_option maxRecDepth 20000 in
theorem gX4_seatProperty_X0_isTaken : GoodIn wsX4_seatProperty (wsV RX4 120 RX0 yX0_isTaken wsX0_isTaken) := goodIn_app (goodIn_of _ (by decide +kernel)) ggX4_seatProperty_X0_isTaken
set_option maxRecDepth 20000 in
theorem ggX4_seatProperty_X3_cellOf : GoodIn wsX4_seatProperty wsX3_cellOf := goodIn_r _ [19] (by decide +kernel) (by decide +kernel)
set_option maxRecDepth 20000 in
theorem gX4_seatProperty_X3_cellOf : GoodIn wsX4_seatProperty (va_wsS RX4 296 yX3_cellOf wsX3_cellOf) := goodIn_app (goodIn_of _ (by decide +kernel)) ggX4_seatProperty_X3_cellOf
set_option maxRecDepth 20000 in
theorem ggX4_seatProperty_X3_sees : GoodIn wsX4_seatProperty wsX3_sees := goodIn_r _ [23, 24, 25, 26, 18, 27, 28, 29, 30, 17, 19, 71, 72, 73, 74, 75] (by decide +kernel) (by decide +kernel)
set_option maxRecDepth 20000 in
theorem gX4_seatProperty_X3_sees : GoodIn wsX4_seatProperty (wsV RX4 301 RX3 yX3_sees wsX3_sees) := goodIn_app (goodIn_of _ (by decide +kernel)) ggX4_seatProperty_X3_sees
set_option maxRecDepth 20000 in
theorem ggX4_seatProperty_X0_takenBehind : GoodIn wsX4_seatProperty wsX0_takenBehind := goodIn_r _ [34, 35, 10, 36, 12, 13, 8, 14, 15, 37, 38, 39, 40, 41, 42, 43, 44, 45, 46, 6, 7, 9, 47, 48, 49, 50, 51, 52, 53, 54, 55, 56, 76, 77, 78, 79, 80, 81, 82, 83, 84, 85] (by decide +kernel) (by decide +kernel)
set_option maxRecDepth 20000 in
theorem gX4_seatProperty_X0_takenBehind : GoodIn wsX4_seatProperty (wsV RX4 304 RX0 yX0_takenBehind wsX0_takenBehind) := goodIn_app (goodIn_of _ (by decide +kernel)) ggX4_seatProperty_X0_takenBehind
set_option maxRecDepth 20000 in
theorem ggX4_seatProperty_X3_placeOf : GoodIn wsX4_seatProperty wsX3_placeOf := goodIn_r _ [60, 61, 62, 63, 64, 30, 17, 18, 19, 65, 12, 13, 8, 14, 15, 71, 72, 73, 74, 75, 76, 77, 78, 79, 80, 81, 82, 83, 84, 85] (by decide +kernel) (by decide +kernel)
set_option maxRecDepth 20000 in
theorem gX4_seatProperty_X3_placeOf : GoodIn wsX4_seatProperty (wsV RX4 307 RX3 yX3_placeOf wsX3_placeOf) := goodIn_app (goodIn_of _ (by decide +kernel)) ggX4_seatProperty_X3_placeOf
theorem dX4_seatProperty_0 : decode cX4_seatProperty 0 = .ok (.iload_n 3, 1) := by decide +kernel
theorem dX4_seatProperty_1 : decode cX4_seatProperty 1 = .ok (.tableswitch 123 0 5 #[39, 49, 67, 81, 95, 113], 39) := by decide +kernel
theorem dX4_seatProperty_40 : decode cX4_seatProperty 40 = .ok (.aload_n 0, 1) := by decide +kernel
theorem dX4_seatProperty_41 : decode cX4_seatProperty 41 = .ok (.getfield 20, 3) := by decide +kernel
theorem dX4_seatProperty_44 : decode cX4_seatProperty 44 = .ok (.iload_n 1, 1) := by decide +kernel
theorem dX4_seatProperty_45 : decode cX4_seatProperty 45 = .ok (.iload_n 2, 1) := by decide +kernel
theorem dX4_seatProperty_46 : decode cX4_seatProperty 46 = .ok (.invokevirtual 290, 3) := by decide +kernel
theorem dX4_seatProperty_49 : decode cX4_seatProperty 49 = .ok (.ireturn, 1) := by decide +kernel
theorem dX4_seatProperty_50 : decode cX4_seatProperty 50 = .ok (.aload_n 0, 1) := by decide +kernel
theorem dX4_seatProperty_51 : decode cX4_seatProperty 51 = .ok (.getfield 20, 3) := by decide +kernel
theorem dX4_seatProperty_54 : decode cX4_seatProperty 54 = .ok (.iload_n 1, 1) := by decide +kernel
theorem dX4_seatProperty_55 : decode cX4_seatProperty 55 = .ok (.iload_n 2, 1) := by decide +kernel
theorem dX4_seatProperty_56 : decode cX4_seatProperty 56 = .ok (.invokevirtual 120, 3) := by decide +kernel
theorem dX4_seatProperty_59 : decode cX4_seatProperty 59 = .ok (.ifCond .eq 7, 3) := by decide +kernel
theorem dX4_seatProperty_62 : decode cX4_seatProperty 62 = .ok (.iconst 1, 1) := by decide +kernel
theorem dX4_seatProperty_63 : decode cX4_seatProperty 63 = .ok (.goto 4, 3) := by decide +kernel
theorem dX4_seatProperty_66 : decode cX4_seatProperty 66 = .ok (.iconst 0, 1) := by decide +kernel
theorem dX4_seatProperty_67 : decode cX4_seatProperty 67 = .ok (.ireturn, 1) := by decide +kernel
theorem dX4_seatProperty_68 : decode cX4_seatProperty 68 = .ok (.aload_n 0, 1) := by decide +kernel
theorem dX4_seatProperty_69 : decode cX4_seatProperty 69 = .ok (.getfield 10, 3) := by decide +kernel
theorem dX4_seatProperty_72 : decode cX4_seatProperty 72 = .ok (.getfield 293, 3) := by decide +kernel
theorem dX4_seatProperty_75 : decode cX4_seatProperty 75 = .ok (.iload_n 1, 1) := by decide +kernel
theorem dX4_seatProperty_76 : decode cX4_seatProperty 76 = .ok (.iload_n 2, 1) := by decide +kernel
theorem dX4_seatProperty_77 : decode cX4_seatProperty 77 = .ok (.invokestatic 296, 3) := by decide +kernel
theorem dX4_seatProperty_80 : decode cX4_seatProperty 80 = .ok (.iaload, 1) := by decide +kernel
theorem dX4_seatProperty_81 : decode cX4_seatProperty 81 = .ok (.ireturn, 1) := by decide +kernel
theorem dX4_seatProperty_82 : decode cX4_seatProperty 82 = .ok (.aload_n 0, 1) := by decide +kernel
theorem dX4_seatProperty_83 : decode cX4_seatProperty 83 = .ok (.getfield 10, 3) := by decide +kernel
theorem dX4_seatProperty_86 : decode cX4_seatProperty 86 = .ok (.getfield 299, 3) := by decide +kernel
theorem dX4_seatProperty_89 : decode cX4_seatProperty 89 = .ok (.iload_n 1, 1) := by decide +kernel
theorem dX4_seatProperty_90 : decode cX4_seatProperty 90 = .ok (.iload_n 2, 1) := by decide +kernel
theorem dX4_seatProperty_91 : decode cX4_seatProperty 91 = .ok (.invokestatic 296, 3) := by decide +kernel
theorem dX4_seatProperty_94 : decode cX4_seatProperty 94 = .ok (.iaload, 1) := by decide +kernel
theorem dX4_seatProperty_95 : decode cX4_seatProperty 95 = .ok (.ireturn, 1) := by decide +kernel
theorem dX4_seatProperty_96 : decode cX4_seatProperty 96 = .ok (.aload_n 0, 1) := by decide +kernel
theorem dX4_seatProperty_97 : decode cX4_seatProperty 97 = .ok (.getfield 10, 3) := by decide +kernel
theorem dX4_seatProperty_100 : decode cX4_seatProperty 100 = .ok (.iload_n 1, 1) := by decide +kernel
theorem dX4_seatProperty_101 : decode cX4_seatProperty 101 = .ok (.iload_n 2, 1) := by decide +kernel
theorem dX4_seatProperty_102 : decode cX4_seatProperty 102 = .ok (.invokevirtual 301, 3) := by decide +kernel
theorem dX4_seatProperty_105 : decode cX4_seatProperty 105 = .ok (.ifCond .eq 7, 3) := by decide +kernel
theorem dX4_seatProperty_108 : decode cX4_seatProperty 108 = .ok (.iconst 1, 1) := by decide +kernel
theorem dX4_seatProperty_109 : decode cX4_seatProperty 109 = .ok (.goto 4, 3) := by decide +kernel
theorem dX4_seatProperty_112 : decode cX4_seatProperty 112 = .ok (.iconst 0, 1) := by decide +kernel
theorem dX4_seatProperty_113 : decode cX4_seatProperty 113 = .ok (.ireturn, 1) := by decide +kernel
theorem dX4_seatProperty_114 : decode cX4_seatProperty 114 = .ok (.aload_n 0, 1) := by decide +kernel
theorem dX4_seatProperty_115 : decode cX4_seatProperty 115 = .ok (.getfield 20, 3) := by decide +kernel
theorem dX4_seatProperty_118 : decode cX4_seatProperty 118 = .ok (.iload_n 1, 1) := by decide +kernel
theorem dX4_seatProperty_119 : decode cX4_seatProperty 119 = .ok (.iload_n 2, 1) := by decide +kernel
theorem dX4_seatProperty_120 : decode cX4_seatProperty 120 = .ok (.invokevirtual 304, 3) := by decide +kernel
theorem dX4_seatProperty_123 : decode cX4_seatProperty 123 = .ok (.ireturn, 1) := by decide +kernel
theorem dX4_seatProperty_124 : decode cX4_seatProperty 124 = .ok (.aload_n 0, 1) := by decide +kernel
theorem dX4_seatProperty_125 : decode cX4_seatProperty 125 = .ok (.getfield 10, 3) := by decide +kernel
theorem dX4_seatProperty_128 : decode cX4_seatProperty 128 = .ok (.iload_n 1, 1) := by decide +kernel
theorem dX4_seatProperty_129 : decode cX4_seatProperty 129 = .ok (.iload_n 2, 1) := by decide +kernel
theorem dX4_seatProperty_130 : decode cX4_seatProperty 130 = .ok (.iconst 0, 1) := by decide +kernel
theorem dX4_seatProperty_131 : decode cX4_seatProperty 131 = .ok (.invokevirtual 307, 3) := by decide +kernel
theorem dX4_seatProperty_134 : decode cX4_seatProperty 134 = .ok (.ireturn, 1) := by decide +kernel
set_option maxRecDepth 20000 in
theorem ggX4_columnProperty_X0_seatsBehindColumn : GoodIn wsX4_columnProperty wsX0_seatsBehindColumn := goodIn_r _ [9, 10, 11, 12, 13, 14, 8, 15, 16, 17, 18, 19, 20, 21, 22, 23, 24, 25, 26, 27, 33, 34, 35, 36, 37, 38, 39, 40, 41, 42] (by decide +kernel) (by decide +kernel)
set_option maxRecDepth 20000 in
theorem gX4_columnProperty_X0_seatsBehindColumn : GoodIn wsX4_columnProperty (wsV RX4 320 RX0 yX0_seatsBehindColumn wsX0_seatsBehindColumn) := goodIn_app (goodIn_of _ (by decide +kernel)) ggX4_columnProperty_X0_seatsBehindColumn
theorem dX4_columnProperty_0 : decode cX4_columnProperty 0 = .ok (.iload_n 2, 1) := by decide +kernel
theorem dX4_columnProperty_1 : decode cX4_columnProperty 1 = .ok (.tableswitch 57 0 2 #[27, 37, 47], 27) := by decide +kernel
theorem dX4_columnProperty_28 : decode cX4_columnProperty 28 = .ok (.aload_n 0, 1) := by decide +kernel
theorem dX4_columnProperty_29 : decode cX4_columnProperty 29 = .ok (.getfield 20, 3) := by decide +kernel
theorem dX4_columnProperty_32 : decode cX4_columnProperty 32 = .ok (.getfield 311, 3) := by decide +kernel
theorem dX4_columnProperty_35 : decode cX4_columnProperty 35 = .ok (.iload_n 1, 1) := by decide +kernel
theorem dX4_columnProperty_36 : decode cX4_columnProperty 36 = .ok (.iaload, 1) := by decide +kernel
theorem dX4_columnProperty_37 : decode cX4_columnProperty 37 = .ok (.ireturn, 1) := by decide +kernel
theorem dX4_columnProperty_38 : decode cX4_columnProperty 38 = .ok (.aload_n 0, 1) := by decide +kernel
theorem dX4_columnProperty_39 : decode cX4_columnProperty 39 = .ok (.getfield 20, 3) := by decide +kernel
theorem dX4_columnProperty_42 : decode cX4_columnProperty 42 = .ok (.getfield 314, 3) := by decide +kernel
theorem dX4_columnProperty_45 : decode cX4_columnProperty 45 = .ok (.iload_n 1, 1) := by decide +kernel
theorem dX4_columnProperty_46 : decode cX4_columnProperty 46 = .ok (.iaload, 1) := by decide +kernel
theorem dX4_columnProperty_47 : decode cX4_columnProperty 47 = .ok (.ireturn, 1) := by decide +kernel
theorem dX4_columnProperty_48 : decode cX4_columnProperty 48 = .ok (.aload_n 0, 1) := by decide +kernel
theorem dX4_columnProperty_49 : decode cX4_columnProperty 49 = .ok (.getfield 20, 3) := by decide +kernel
theorem dX4_columnProperty_52 : decode cX4_columnProperty 52 = .ok (.getfield 317, 3) := by decide +kernel
theorem dX4_columnProperty_55 : decode cX4_columnProperty 55 = .ok (.iload_n 1, 1) := by decide +kernel
theorem dX4_columnProperty_56 : decode cX4_columnProperty 56 = .ok (.iaload, 1) := by decide +kernel
theorem dX4_columnProperty_57 : decode cX4_columnProperty 57 = .ok (.ireturn, 1) := by decide +kernel
theorem dX4_columnProperty_58 : decode cX4_columnProperty 58 = .ok (.aload_n 0, 1) := by decide +kernel
theorem dX4_columnProperty_59 : decode cX4_columnProperty 59 = .ok (.getfield 20, 3) := by decide +kernel
theorem dX4_columnProperty_62 : decode cX4_columnProperty 62 = .ok (.iload_n 1, 1) := by decide +kernel
theorem dX4_columnProperty_63 : decode cX4_columnProperty 63 = .ok (.invokevirtual 320, 3) := by decide +kernel
theorem dX4_columnProperty_66 : decode cX4_columnProperty 66 = .ok (.ireturn, 1) := by decide +kernel
set_option maxRecDepth 20000 in
theorem ggX4_numberOf_X0_seatsInAll : GoodIn wsX4_numberOf wsX0_seatsInAll := goodIn_r _ [11, 12, 13, 81, 82, 83, 84, 85, 86, 87, 88, 89, 90] (by decide +kernel) (by decide +kernel)
set_option maxRecDepth 20000 in
theorem gX4_numberOf_X0_seatsInAll : GoodIn wsX4_numberOf (wsV RX4 75 RX0 yX0_seatsInAll wsX0_seatsInAll) := goodIn_app (goodIn_of _ (by decide +kernel)) ggX4_numberOf_X0_seatsInAll
set_option maxRecDepth 20000 in
theorem ggX4_numberOf_X0_takenInAll : GoodIn wsX4_numberOf wsX0_takenInAll := goodIn_r _ [17, 12, 18, 19, 20, 10, 21, 22, 23, 24, 25, 26, 27, 28, 29, 81, 82, 83, 84, 85, 86, 87, 88, 89, 90] (by decide +kernel) (by decide +kernel)
set_option maxRecDepth 20000 in
theorem gX4_numberOf_X0_takenInAll : GoodIn wsX4_numberOf (wsV RX4 139 RX0 yX0_takenInAll wsX0_takenInAll) := goodIn_app (goodIn_of _ (by decide +kernel)) ggX4_numberOf_X0_takenInAll
set_option maxRecDepth 20000 in
theorem ggX4_numberOf_X3_seeing : GoodIn wsX4_numberOf wsX3_seeing := goodIn_r _ [34, 35, 36, 37, 38, 39, 33, 40, 41, 42, 43, 44, 45, 46, 47, 48, 49, 50, 51, 52, 53, 54, 93, 94, 95, 96, 97, 81, 82, 83, 84, 85, 86, 87, 88, 89, 90] (by decide +kernel) (by decide +kernel)
set_option maxRecDepth 20000 in
theorem gX4_numberOf_X3_seeing : GoodIn wsX4_numberOf (wsV RX4 323 RX3 yX3_seeing wsX3_seeing) := goodIn_app (goodIn_of _ (by decide +kernel)) ggX4_numberOf_X3_seeing
set_option maxRecDepth 20000 in
theorem ggX4_numberOf_X3_takenSeeing : GoodIn wsX4_numberOf wsX3_takenSeeing := goodIn_r _ [58, 35, 36, 41, 59, 60, 61, 10, 62, 22, 42, 43, 44, 33, 45, 46, 47, 48, 49, 50, 51, 52, 53, 54, 93, 94, 95, 96, 97, 81, 82, 83, 84, 85, 86, 87, 88, 89, 90] (by decide +kernel) (by decide +kernel)
set_option maxRecDepth 20000 in
theorem gX4_numberOf_X3_takenSeeing : GoodIn wsX4_numberOf (wsV RX4 326 RX3 yX3_takenSeeing wsX3_takenSeeing) := goodIn_app (goodIn_of _ (by decide +kernel)) ggX4_numberOf_X3_takenSeeing
set_option maxRecDepth 20000 in
theorem ggX4_numberOf_X3_pairsInWay : GoodIn wsX4_numberOf wsX3_pairsInWay := goodIn_r _ [66, 35, 36, 41, 50, 59, 60, 61, 10, 62, 22, 52, 53, 33, 54, 93, 94, 95, 96, 97, 81, 82, 83, 84, 85, 86, 87, 88, 89, 90] (by decide +kernel) (by decide +kernel)
set_option maxRecDepth 20000 in
theorem gX4_numberOf_X3_pairsInWay : GoodIn wsX4_numberOf (wsV RX4 329 RX3 yX3_pairsInWay wsX3_pairsInWay) := goodIn_app (goodIn_of _ (by decide +kernel)) ggX4_numberOf_X3_pairsInWay
set_option maxRecDepth 20000 in
theorem ggX4_numberOf_X0_longestFree : GoodIn wsX4_numberOf wsX0_longestFree := goodIn_r _ [70, 12, 13, 71, 72, 73, 74, 75, 60, 61, 10, 62, 22, 81, 82, 83, 84, 85, 86, 87, 88, 89, 90] (by decide +kernel) (by decide +kernel)
set_option maxRecDepth 20000 in
theorem gX4_numberOf_X0_longestFree : GoodIn wsX4_numberOf (wsV RX4 332 RX0 yX0_longestFree wsX0_longestFree) := goodIn_app (goodIn_of _ (by decide +kernel)) ggX4_numberOf_X0_longestFree
theorem dX4_numberOf_0 : decode cX4_numberOf 0 = .ok (.iload_n 1, 1) := by decide +kernel
theorem dX4_numberOf_1 : decode cX4_numberOf 1 = .ok (.tableswitch 111 0 7 #[47, 55, 63, 71, 79, 87, 95, 103], 47) := by decide +kernel
theorem dX4_numberOf_48 : decode cX4_numberOf 48 = .ok (.aload_n 0, 1) := by decide +kernel
theorem dX4_numberOf_49 : decode cX4_numberOf 49 = .ok (.getfield 20, 3) := by decide +kernel
theorem dX4_numberOf_52 : decode cX4_numberOf 52 = .ok (.getfield 156, 3) := by decide +kernel
theorem dX4_numberOf_55 : decode cX4_numberOf 55 = .ok (.ireturn, 1) := by decide +kernel
theorem dX4_numberOf_56 : decode cX4_numberOf 56 = .ok (.aload_n 0, 1) := by decide +kernel
theorem dX4_numberOf_57 : decode cX4_numberOf 57 = .ok (.getfield 20, 3) := by decide +kernel
theorem dX4_numberOf_60 : decode cX4_numberOf 60 = .ok (.getfield 87, 3) := by decide +kernel
theorem dX4_numberOf_63 : decode cX4_numberOf 63 = .ok (.ireturn, 1) := by decide +kernel
theorem dX4_numberOf_64 : decode cX4_numberOf 64 = .ok (.aload_n 0, 1) := by decide +kernel
theorem dX4_numberOf_65 : decode cX4_numberOf 65 = .ok (.getfield 20, 3) := by decide +kernel
theorem dX4_numberOf_68 : decode cX4_numberOf 68 = .ok (.invokevirtual 75, 3) := by decide +kernel
theorem dX4_numberOf_71 : decode cX4_numberOf 71 = .ok (.ireturn, 1) := by decide +kernel
theorem dX4_numberOf_72 : decode cX4_numberOf 72 = .ok (.aload_n 0, 1) := by decide +kernel
theorem dX4_numberOf_73 : decode cX4_numberOf 73 = .ok (.getfield 20, 3) := by decide +kernel
theorem dX4_numberOf_76 : decode cX4_numberOf 76 = .ok (.invokevirtual 139, 3) := by decide +kernel
theorem dX4_numberOf_79 : decode cX4_numberOf 79 = .ok (.ireturn, 1) := by decide +kernel
theorem dX4_numberOf_80 : decode cX4_numberOf 80 = .ok (.aload_n 0, 1) := by decide +kernel
theorem dX4_numberOf_81 : decode cX4_numberOf 81 = .ok (.getfield 10, 3) := by decide +kernel
theorem dX4_numberOf_84 : decode cX4_numberOf 84 = .ok (.invokevirtual 323, 3) := by decide +kernel
theorem dX4_numberOf_87 : decode cX4_numberOf 87 = .ok (.ireturn, 1) := by decide +kernel
theorem dX4_numberOf_88 : decode cX4_numberOf 88 = .ok (.aload_n 0, 1) := by decide +kernel
theorem dX4_numberOf_89 : decode cX4_numberOf 89 = .ok (.getfield 10, 3) := by decide +kernel
theorem dX4_numberOf_92 : decode cX4_numberOf 92 = .ok (.invokevirtual 326, 3) := by decide +kernel
theorem dX4_numberOf_95 : decode cX4_numberOf 95 = .ok (.ireturn, 1) := by decide +kernel
theorem dX4_numberOf_96 : decode cX4_numberOf 96 = .ok (.aload_n 0, 1) := by decide +kernel
theorem dX4_numberOf_97 : decode cX4_numberOf 97 = .ok (.getfield 10, 3) := by decide +kernel
theorem dX4_numberOf_100 : decode cX4_numberOf 100 = .ok (.invokevirtual 329, 3) := by decide +kernel
theorem dX4_numberOf_103 : decode cX4_numberOf 103 = .ok (.ireturn, 1) := by decide +kernel
theorem dX4_numberOf_104 : decode cX4_numberOf 104 = .ok (.aload_n 0, 1) := by decide +kernel
theorem dX4_numberOf_105 : decode cX4_numberOf 105 = .ok (.getfield 20, 3) := by decide +kernel
theorem dX4_numberOf_108 : decode cX4_numberOf 108 = .ok (.invokevirtual 332, 3) := by decide +kernel
theorem dX4_numberOf_111 : decode cX4_numberOf 111 = .ok (.ireturn, 1) := by decide +kernel
theorem dX4_numberOf_112 : decode cX4_numberOf 112 = .ok (.aload_n 0, 1) := by decide +kernel
theorem dX4_numberOf_113 : decode cX4_numberOf 113 = .ok (.getfield 27, 3) := by decide +kernel
theorem dX4_numberOf_116 : decode cX4_numberOf 116 = .ok (.getfield 194, 3) := by decide +kernel
theorem dX4_numberOf_119 : decode cX4_numberOf 119 = .ok (.ireturn, 1) := by decide +kernel
end
section
/-! words of the class's face -/
def seatC (z : ZZ) (r s wh : Nat) : Int32 := match wh with
  | 0 => side z r s
  | 1 => nI (b2 (tk z r s))
  | 2 => nI (people z r s)
  | 3 => nI (colsW z r s (-1))
  | 4 => nI (b2 (seesB z r s))
  | 5 => nI (blkd z r s false)
  | _ => nI (plc z r s false)
theorem ws_h {z : ZZ} (h : WS z) (r : Nat) (v : Int32) : WS (upd z (5 + 4 * r + 1) v) := by
  intro a q h1 h2
  have e3 : nR (upd z (5 + 4 * r + 1) v) = nR z := nR_upd (by omega)
  rw [e3] at h2
  rw [upd_ne (by omega), upd_ne (by omega)]
  exact h a q h1 h2
def mrWC (z : ZZ) (r s : Nat) (za : Int64) : Int64 := itN 7 (fun w h => mixL h (seatC z r s w).toInt64) za
def mrSC (z : ZZ) (r s : Nat) (za : Int64) : Int64 := mixL (mixL (mrWC z r s za) (blockerI z r s).toInt64) (nI (takThen z r s)).toInt64
def mixRowC (z : ZZ) (r : Nat) (za : Int64) : Int64 := itN (nS z r) (fun s h => mrSC z r s h) (mrB z r za)
theorem val_h {z : ZZ} (h : VAL z) (r : Nat) {v : Int32} (hv : rng v 0 999) : VAL (upd z (5 + 4 * r + 1) v) := by
  obtain ⟨h1, h2, h3, h4, h5⟩ := h
  have e3 : nR (upd z (5 + 4 * r + 1) v) = nR z := nR_upd (by omega)
  have eS : ∀ q, nS (upd z (5 + 4 * r + 1) v) q = nS z q := fun q => by unfold nS; rw [upd_ne (by omega)]
  refine ⟨wf_h h1 r v, ws_h h2 r v, ?_, ?_, ?_⟩
  · intro q hq
    rw [e3] at hq
    obtain ⟨t, a, b⟩ := h3 q hq
    exact ⟨t, by rw [eS]; exact a, by rw [upd_ne (by omega)]; exact b⟩
  · intro q hq
    rw [e3] at hq
    obtain ⟨a, b, c⟩ := h4 q hq
    refine ⟨by rw [upd_ne (by omega)]; exact a, ?_, by rw [eS]; exact c⟩
    by_cases g : q = r
    · subst g; rw [upd_eq]; exact hv
    · rw [upd_ne (by omega)]; exact b
  · rw [upd_ne (by omega), upd_ne (by omega), upd_ne (by omega)]; exact h5
theorem val_laS {z : ZZ} (h : VAL z) (n r : Nat) (hr : r < nR z) : VAL (laS r (z, n)).1 := by
  unfold laS
  split
  · exact h
  · split
    · exact h
    · rename_i h1 h2
      refine val_h (v := leastForI z r) h r ?_
      have h6 := (h.2.2.2.1 r hr).2.1.1
      have h3 : ¬ (leastForI z r).toInt ≤ (z (5 + 4 * r + 1)).toInt := fun q => h1 (Int32.le_iff_toInt_le.mpr q)
      have h4 : ¬ (nI 999).toInt < (leastForI z r).toInt := fun q => h2 (Int32.lt_iff_toInt_lt.mpr q)
      have h5 : (nI 999).toInt = 999 := by decide
      rw [h5] at h4
      exact ⟨by omega, by omega⟩
theorem laN_val {z : ZZ} (h : VAL z) (k : Nat) (hk : k ≤ nR z - 1) : VAL (laN z k).1 := by
  induction k with
  | zero => exact h
  | succ k ih =>
    have g := ih (by omega)
    obtain ⟨h1, h2, h3, h4⟩ := laN_wf h.1 (val_wd h) k (by omega)
    rw [laN_s]
    exact val_laS (z := (laN z k).1) g (laN z k).2 (1 + k) (by omega)
end
section
/-! what every mutator keeps -/
theorem bt_n {n t : Nat} (h : t < 2 ^ n) {i : Nat} (hi : n ≤ i) : bt (nI t) i = false := by
  show (BitVec.ofNat 32 t).getLsbD i = false
  rw [BitVec.getLsbD_ofNat, Nat.testBit_lt_two_pow (Nat.lt_of_lt_of_le h (Nat.pow_le_pow_right (by omega) hi)), Bool.and_false]
theorem vt_bt {n : Nat} {x : Int32} (h : ∀ i, i < 32 → n ≤ i → bt x i = false) : ∃ t, t < 2 ^ n ∧ x = nI t := by
  refine ⟨x.toBitVec.toNat, Nat.lt_pow_two_of_testBit _ (fun i hi => ?_), ?_⟩
  · rw [BitVec.testBit_toNat]
    rcases Nat.lt_or_ge i 32 with q | q
    · exact h i q hi
    · exact BitVec.getLsbD_of_ge _ _ q
  · refine Int32.toBitVec_inj.mp ?_
    show x.toBitVec = BitVec.ofNat 32 _
    rw [BitVec.ofNat_toNat, BitVec.setWidth_eq]
def BT (z : ZZ) : Prop := ∀ r, r < nR z → ∀ i, i < 32 → nS z r ≤ i → bt (z (5 + 4 * r + 3)) i = false
theorem vt_of {z : ZZ} (h : BT z) : VT z := fun r hr => vt_bt (h r hr)
theorem vt_to {z : ZZ} (h : VT z) : BT z := fun r hr i _ hn => by
  obtain ⟨t, ht, e⟩ := h r hr
  rw [e]; exact bt_n ht hn
theorem upd3 {z : ZZ} {r : Nat} {v : Int32} {j : Nat} (h : j ≠ 5 + 4 * r + 3) : upd z (5 + 4 * r + 3) v j = z j := upd_ne h
theorem val_upd3 {z : ZZ} (h : VAL z) {r : Nat} {v : Int32} (hb : ∀ i, i < 32 → nS z r ≤ i → bt v i = false) : VAL (upd z (5 + 4 * r + 3) v) := by
  obtain ⟨h1, h2, h3, h4, h5⟩ := h
  have e3 : nR (upd z (5 + 4 * r + 3) v) = nR z := nR_upd (by omega)
  have eS : ∀ q, nS (upd z (5 + 4 * r + 3) v) q = nS z q := fun q => by unfold nS; rw [upd3 (by omega)]
  refine ⟨wf_upd h1 (by omega) (by omega) (fun q _ => by omega), fun a q ha hq => ?_, vt_of (fun q hq i hi hn => ?_), fun q hq => ?_, ?_⟩
  · rw [e3] at hq
    rw [upd3 (by omega), upd3 (by omega)]; exact h2 a q ha hq
  · rw [e3] at hq
    rw [eS] at hn
    by_cases g : q = r
    · subst g; rw [upd_eq]; exact hb i hi hn
    · rw [upd3 (by omega)]; exact vt_to h3 q hq i hi hn
  · rw [e3] at hq
    rw [upd3 (by omega), upd3 (by omega), eS]; exact h4 q hq
  · rw [upd3 (by omega), upd3 (by omega), upd3 (by omega)]; exact h5
theorem val_occ {z : ZZ} (h : VAL z) {r f m : Nat} (hr : r < nR z) (hm : f + m ≤ nS z r) : VAL (occZ z r f m) := by
  have hS := wf_S12 h.1 hr
  refine val_upd3 h (fun i hi hn => ?_)
  rw [b_or, vt_to h.2.2.1 r hr i hi hn, bitsI_bt (by omega) (by omega) hi, decide_eq_false (by omega)]; rfl
theorem val_vac {z : ZZ} (h : VAL z) {r f : Nat} (hr : r < nR z) : VAL (vacZ z r f) := by
  refine val_upd3 h (fun i hi hn => ?_)
  rw [b_and, vt_to h.2.2.1 r hr i hi hn]; rfl
theorem val_map {z z' : ZZ} (hv : VAL z) (g : Nat → Nat) {n k : Nat} (hR3 : z' 3 = nI n) (hn : n ≤ 10) (hg : ∀ r, r < n → g r < nR z) (hmono : ∀ a r, a < r → r < n → g a < g r)
    (hrow : ∀ r, r < n → ∀ w, w < 3 → z' (5 + 4 * r + w) = z (5 + 4 * g r + w)) (hbits : ∀ r, r < n → z' (5 + 4 * r + 3) = z (5 + 4 * g r + 3) ∨ z' (5 + 4 * r + 3) = nI 0) (h4 : z' 4 = nI k) (hk : k ≤ 4) (hs : z' 0 = z 0 ∧ z' 1 = z 1 ∧ z' 2 = z 2) : VAL z' := by
  have eR : nR z' = n := by
    show (z' 3).toNatClampNeg = n
    rw [hR3, nI_clamp (by omega)]
  have eC : nC z' = k := by
    show (z' 4).toNatClampNeg = k
    rw [h4, nI_clamp (by omega)]
  have r0 : ∀ r, r < n → z' (5 + 4 * r) = z (5 + 4 * g r) := fun r hr => hrow r hr 0 (by omega)
  have r1 : ∀ r, r < n → z' (5 + 4 * r + 1) = z (5 + 4 * g r + 1) := fun r hr => hrow r hr 1 (by omega)
  have r2 : ∀ r, r < n → z' (5 + 4 * r + 2) = z (5 + 4 * g r + 2) := fun r hr => hrow r hr 2 (by omega)
  have eS : ∀ r, r < n → nS z' r = nS z (g r) := fun r hr => by unfold nS; rw [r2 r hr]
  obtain ⟨h1, h2, h3, h5, h6⟩ := hv
  refine ⟨⟨by rw [eR, hR3], by omega, by rw [eC, h4], by omega, fun r hr => ?_⟩, fun a r ha hr => ?_, vt_of (fun r hr i hi hn2 => ?_), fun r hr => ?_, ?_⟩
  · rw [eR] at hr
    rw [r2 r hr, eS r hr]; exact h1.2.2.2.2 (g r) (hg r hr)
  · rw [eR] at hr
    rw [r0 a (by omega), r0 r hr]; exact h2 (g a) (g r) (hmono a r ha hr) (hg r hr)
  · rw [eR] at hr
    rw [eS r hr] at hn2
    rcases hbits r hr with e | e
    · rw [e]; exact vt_to h3 (g r) (hg r hr) i hi hn2
    · rw [e]; exact b_0 i
  · rw [eR] at hr
    rw [r0 r hr, r1 r hr, eS r hr]; exact h5 (g r) (hg r hr)
  · rw [hs.1, hs.2.1, hs.2.2]; exact h6
theorem del_3 (z : ZZ) (r : Nat) : delZ z r 3 = nI (nR z - 1) := by unfold delZ delS; rw [if_pos rfl]
theorem del_lo {z : ZZ} {r j : Nat} (h3 : j ≠ 3) (h : j < 5 + 4 * r) : delZ z r j = z j := by unfold delZ delS; rw [if_neg h3, if_neg (by omega)]
theorem del_hi {z : ZZ} {r j : Nat} (h : 5 + 4 * r ≤ j) (h2 : j < 5 + 4 * (nR z - 1)) : delZ z r j = z (j + 4) := by unfold delZ delS; rw [if_neg (by omega), if_pos ⟨h, h2⟩]
theorem val_del {z : ZZ} (h : VAL z) {r : Nat} (hr : r < nR z) : VAL (delZ z r) := by
  have hR := wf_R10 h.1
  have row : ∀ q, q < nR z - 1 → ∀ w, w < 4 → delZ z r (5 + 4 * q + w) = z (5 + 4 * (if q < r then q else q + 1) + w) := by
    intro q hq w hw
    by_cases g : q < r
    · rw [if_pos g, del_lo (by omega) (by omega)]
    · rw [if_neg g, del_hi (by omega) (by omega)]; congr 1; omega
  refine val_map h (fun q => if q < r then q else q + 1) (n := nR z - 1) (k := nC z) (del_3 z r) (by omega) (fun q hq => ?_) (fun a q ha hq => ?_) (fun q hq w hw => row q hq w (by omega)) (fun q hq => Or.inl (row q hq 3 (by omega))) ?_ (wf_C4 h.1) ⟨del_lo (by omega) (by omega), del_lo (by omega) (by omega), del_lo (by omega) (by omega)⟩
  · show (if q < r then q else q + 1) < nR z
    by_cases g : q < r
    · rw [if_pos g]; omega
    · rw [if_neg g]; omega
  · show (if a < r then a else a + 1) < (if q < r then q else q + 1)
    by_cases g1 : a < r <;> by_cases g2 : q < r <;> simp only [g1, g2, if_true, if_false] <;> omega
  · rw [del_lo (by omega) (by omega)]; exact wf_C h.1
theorem val_id {z z' : ZZ} (h : VAL z) {k : Nat} (h4 : z' 4 = nI k) (hk : k ≤ 4) (hsame : ∀ j, j < 45 → j ≠ 4 → z' j = z j) : VAL z' := by
  have hR := wf_R10 h.1
  refine val_map h (fun q => q) (n := nR z) (k := k) ?_ hR (fun q hq => hq) (fun a q ha _ => ha) (fun q hq w hw => hsame _ (by omega) (by omega)) (fun q hq => Or.inl (hsame _ (by omega) (by omega))) h4 hk ⟨hsame _ (by omega) (by omega), hsame _ (by omega) (by omega), hsame _ (by omega) (by omega)⟩
  rw [hsame 3 (by omega) (by omega)]; exact wf_R h.1
theorem val_addC {z : ZZ} (h : VAL z) (hc : nC z < 4) (d s hh : Int32) : VAL (addC z d s hh) := by
  refine val_id h (k := nC z + 1) upd_eq (by omega) (fun j hj h4 => ?_)
  unfold addC
  rw [upd_ne h4, upd_ne (by omega), upd_ne (by omega), upd_ne (by omega)]
theorem val_dlc {z : ZZ} (h : VAL z) {c : Nat} (hc : c < nC z) : VAL (dlcZ z c) := by
  have hC := wf_C4 h.1
  refine val_id h (k := nC z - 1) ?_ (by omega) (fun j hj h4 => ?_)
  · unfold dlcZ dlcS; rw [if_pos rfl]
  · unfold dlcZ dlcS; rw [if_neg h4, if_neg (by omega)]
theorem val_clr {z : ZZ} (h : VAL z) : VAL (clrZ z) := by
  have lo : ∀ j, j < 5 → clrZ z j = z j := fun j hj => by unfold clrZ clrS; rw [if_neg (by omega)]
  refine val_map h (fun q => q) (n := nR z) (k := nC z) ?_ (wf_R10 h.1) (fun q hq => hq) (fun a q ha _ => ha) (fun q hq w hw => ?_) (fun q hq => Or.inr ?_) ?_ (wf_C4 h.1) ⟨lo _ (by omega), lo _ (by omega), lo _ (by omega)⟩
  · rw [lo _ (by omega)]; exact wf_R h.1
  · unfold clrZ clrS; rw [if_neg (by omega)]
  · unfold clrZ clrS; rw [if_pos (by omega)]
  · rw [lo _ (by omega)]; exact wf_C h.1
theorem wt_t {v lo hi : Int32} (h : wthn v lo hi = true) : ¬ v < lo ∧ ¬ hi < v := by
  unfold wthn at h
  rw [Bool.and_eq_true, Bool.not_eq_true', Bool.not_eq_true', decide_eq_false_iff_not, decide_eq_false_iff_not] at h
  exact h
theorem wt_rng {v : Int32} {lo hi : Nat} (hlo : lo < 2 ^ 31) (hhi : hi < 2 ^ 31) (h : wthn v (nI lo) (nI hi) = true) : rng v lo hi := by
  obtain ⟨h1, h2⟩ := wt_t h
  rw [Int32.lt_iff_toInt_lt, nI_toInt hlo] at h1
  rw [Int32.lt_iff_toInt_lt, nI_toInt hhi] at h2
  exact ⟨by omega, by omega⟩
theorem val_set {z : ZZ} (h : VAL z) {q : Nat} (hq : q < 3) {v : Int32} (hv : isValB (nI q) v = true) : VAL (upd z q v) := by
  obtain ⟨h1, h2, h3, h4, h5⟩ := h
  have e3 : nR (upd z q v) = nR z := nR_upd (by omega)
  have eS : ∀ r, nS (upd z q v) r = nS z r := fun r => by unfold nS; rw [upd_ne (by omega)]
  refine ⟨wf_upd h1 (by omega) (by omega) (fun r _ => by omega), fun a r ha hr => ?_, vt_of (fun r hr i hi hn => ?_), fun r hr => ?_, ?_⟩
  · rw [e3] at hr
    rw [upd_ne (by omega), upd_ne (by omega)]; exact h2 a r ha hr
  · rw [e3] at hr
    rw [eS] at hn
    rw [upd_ne (by omega)]; exact vt_to h3 r hr i hi hn
  · rw [e3] at hr
    rw [upd_ne (by omega), upd_ne (by omega), eS]; exact h4 r hr
  · unfold isValB at hv
    rcases (show q = 0 ∨ q = 1 ∨ q = 2 by omega) with rfl | rfl | rfl
    · rw [if_pos (by decide)] at hv
      exact ⟨by rw [upd_eq]; exact wt_rng (lo := 0) (hi := 999) (by omega) (by omega) hv, by rw [upd_ne (by omega)]; exact h5.2.1, by rw [upd_ne (by omega)]; exact h5.2.2⟩
    · rw [if_neg (by decide), if_pos rfl] at hv
      exact ⟨by rw [upd_ne (by omega)]; exact h5.1, by rw [upd_eq]; exact wt_rng (lo := 1) (hi := 300) (by omega) (by omega) hv, by rw [upd_ne (by omega)]; exact h5.2.2⟩
    · rw [if_neg (by decide), if_neg (by decide)] at hv
      exact ⟨by rw [upd_ne (by omega)]; exact h5.1, by rw [upd_ne (by omega)]; exact h5.2.1, by rw [upd_eq]; exact wt_rng (lo := 0) (hi := 100) (by omega) (by omega) hv⟩
/-- where a new row goes -/
theorem insAt_lo (z : ZZ) (d : Int32) {n : Nat} (h : 0 < insAt z d n) : z (5 + 4 * (insAt z d n - 1)) ≤ d := by
  induction n with
  | zero => exact absurd h (Nat.lt_irrefl 0)
  | succ n ih =>
    by_cases g : z (5 + 4 * n) ≤ d
    · have e : insAt z d (n + 1) = n + 1 := if_pos g
      rw [e]; exact g
    · have e : insAt z d (n + 1) = insAt z d n := if_neg g
      rw [e] at h ⊢; exact ih h
theorem insAt_hi (z : ZZ) (d : Int32) {n j : Nat} (h : insAt z d n ≤ j) (hj : j < n) : ¬ z (5 + 4 * j) ≤ d := by
  induction n with
  | zero => omega
  | succ n ih =>
    by_cases g : z (5 + 4 * n) ≤ d
    · have e : insAt z d (n + 1) = n + 1 := if_pos g
      omega
    · have e : insAt z d (n + 1) = insAt z d n := if_neg g
      rw [e] at h
      rcases Nat.lt_or_ge j n with q | q
      · exact ih h q
      · rw [show j = n by omega]; exact g
theorem ins_lt {z : ZZ} {d hh s : Int32} {r w : Nat} (h : nR z < 10) (hr : r < insAt z d (nR z)) (hw : w < 4) : insZ z d hh s (5 + 4 * r + w) = z (5 + 4 * r + w) := by
  have hk := insAt_b z d (nR z)
  unfold insZ; rw [upd_ne (by omega), upd_ne (by omega), upd_ne (by omega), upd_ne (by omega), upd_ne (by omega)]; unfold shZ; rw [if_neg (by omega)]
theorem ins_gt {z : ZZ} {d hh s : Int32} {r w : Nat} (h : nR z < 10) (hr : insAt z d (nR z) ≤ r) (hr2 : r < nR z) (hw : w < 4) : insZ z d hh s (5 + 4 * (r + 1) + w) = z (5 + 4 * r + w) := by
  have hk := insAt_b z d (nR z)
  unfold insZ; rw [upd_ne (by omega), upd_ne (by omega), upd_ne (by omega), upd_ne (by omega), upd_ne (by omega)]; unfold shZ; rw [if_pos (by omega)]; congr 1; omega
theorem ins_at {z : ZZ} {d hh s : Int32} : insZ z d hh s (5 + 4 * insAt z d (nR z)) = d ∧ insZ z d hh s (5 + 4 * insAt z d (nR z) + 1) = hh ∧ insZ z d hh s (5 + 4 * insAt z d (nR z) + 2) = s ∧ insZ z d hh s (5 + 4 * insAt z d (nR z) + 3) = nI 0 := by
  unfold insZ
  refine ⟨?_, ?_, ?_, upd_eq⟩
  · rw [upd_ne (by omega), upd_ne (by omega), upd_ne (by omega)]; exact upd_eq
  · rw [upd_ne (by omega), upd_ne (by omega)]; exact upd_eq
  · rw [upd_ne (by omega)]; exact upd_eq
theorem val_ins {z : ZZ} (h : VAL z) {d hh s : Int32} (hc : canAdd z d = true) (hd : rng d 1 999) (hh9 : rng hh 0 999) (hs : ∃ j : Nat, 1 ≤ j ∧ j ≤ 12 ∧ s = nI j) : VAL (insZ z d hh s) := by
  have h10 := canAdd_lt hc
  have hk := insAt_b z d (nR z)
  have hne : ∀ r, r < nR z → ¬ z (5 + 4 * r) = d := by
    intro r hr e
    unfold canAdd at hc
    rw [Bool.and_eq_true] at hc
    have h1 := allN_at hc.2 hr
    rw [Bool.not_eq_true', decide_eq_false_iff_not] at h1
    exact h1 e
  obtain ⟨j, hj1, hj2, hsj⟩ := hs
  obtain ⟨h1, h2, h3, h4, h5⟩ := h
  have eR := nR_ins h10 d hh s
  have a0 := ins_at (z := z) (d := d) (hh := hh) (s := s)
  have lo : ∀ r, r < insAt z d (nR z) → z (5 + 4 * r) < d := by
    intro r hr
    have e1 := insAt_lo z d (n := nR z) (by omega)
    have e2 : z (5 + 4 * r) ≤ z (5 + 4 * (insAt z d (nR z) - 1)) := by
      rcases Nat.lt_or_ge r (insAt z d (nR z) - 1) with q | q
      · exact Int32.le_of_lt (h2 r _ q (by omega))
      · rw [show r = insAt z d (nR z) - 1 by omega]; exact Int32.le_refl _
    have e3 := hne r (by omega)
    rw [Int32.lt_iff_toInt_lt]
    rw [Int32.le_iff_toInt_le] at e1 e2
    have e4 : (z (5 + 4 * r)).toInt ≠ d.toInt := fun q => e3 (Int32.toInt_inj.mp q)
    omega
  have hi : ∀ r, insAt z d (nR z) ≤ r → r < nR z → d < z (5 + 4 * r) := fun r q1 q2 => Int32.not_le.mp (insAt_hi z d q1 q2)
  have cs : ∀ r, r < nR z + 1 → r < insAt z d (nR z) ∨ r = insAt z d (nR z) ∨ ∃ q, insAt z d (nR z) ≤ q ∧ q < nR z ∧ r = q + 1 := by
    intro r hr
    rcases Nat.lt_trichotomy r (insAt z d (nR z)) with g | g | g
    · exact Or.inl g
    · exact Or.inr (Or.inl g)
    · exact Or.inr (Or.inr ⟨r - 1, by omega, by omega, by omega⟩)
  have l0 : ∀ r, r < insAt z d (nR z) → insZ z d hh s (5 + 4 * r) = z (5 + 4 * r) := fun r hr => ins_lt (w := 0) h10 hr (by omega)
  have g0 : ∀ r, insAt z d (nR z) ≤ r → r < nR z → insZ z d hh s (5 + 4 * (r + 1)) = z (5 + 4 * r) := fun r q1 q2 => ins_gt (w := 0) h10 q1 q2 (by omega)
  have hwf := wf_ins (z := z) h1 h10 (d := d) (hh := hh) (s := s) hj2 hsj
  refine ⟨hwf, fun a r ha hr => ?_, vt_of (fun r hr i hi9 hn => ?_), fun r hr => ?_, ?_⟩
  · rw [eR] at hr
    rcases cs r hr with g | g | ⟨q, g1, g2, rfl⟩
    · rw [l0 a (by omega), l0 r g]; exact h2 a r ha (by omega)
    · rw [l0 a (by omega), g, a0.1]; exact lo a (by omega)
    · rw [g0 q g1 g2]
      rcases cs a (by omega) with k | k | ⟨q2, k1, k2, rfl⟩
      · rw [l0 a k]; exact h2 a q (by omega) g2
      · rw [k, a0.1]; exact hi q g1 g2
      · rw [g0 q2 k1 k2]; exact h2 q2 q (by omega) g2
  · rw [eR] at hr
    rcases cs r hr with g | g | ⟨q, g1, g2, rfl⟩
    · have eN : nS (insZ z d hh s) r = nS z r := by unfold nS; rw [ins_lt h10 g (by omega)]
      rw [eN] at hn
      rw [ins_lt h10 g (by omega)]; exact vt_to h3 r (by omega) i hi9 hn
    · rw [g, a0.2.2.2]; exact b_0 i
    · have eN : nS (insZ z d hh s) (q + 1) = nS z q := by unfold nS; rw [ins_gt h10 g1 g2 (by omega)]
      rw [eN] at hn
      rw [ins_gt h10 g1 g2 (by omega)]; exact vt_to h3 q g2 i hi9 hn
  · rw [eR] at hr
    rcases cs r hr with g | g | ⟨q, g1, g2, rfl⟩
    · have eN : nS (insZ z d hh s) r = nS z r := by unfold nS; rw [ins_lt h10 g (by omega)]
      rw [l0 r g, ins_lt h10 g (by omega), eN]; exact h4 r (by omega)
    · have eN : nS (insZ z d hh s) r = j := by unfold nS; rw [g, a0.2.2.1, hsj, nI_clamp (by omega)]
      rw [eN, g, a0.1, a0.2.1]; exact ⟨hd, hh9, hj1⟩
    · have eN : nS (insZ z d hh s) (q + 1) = nS z q := by unfold nS; rw [ins_gt h10 g1 g2 (by omega)]
      rw [g0 q g1 g2, ins_gt h10 g1 g2 (by omega), eN]; exact h4 q g2
  · rw [ins_hi h10 (Or.inl (by omega)), ins_hi h10 (Or.inl (by omega)), ins_hi h10 (Or.inl (by omega))]; exact h5
theorem isVal_q {q : Nat} (h : q < 3) (v : Int32) : isValB (nI q) v = (!decide (v < lsA q) && !decide (msA q < v)) := by
  rcases (show q = 0 ∨ q = 1 ∨ q = 2 by omega) with rfl | rfl | rfl
  · unfold isValB; rw [if_pos (by decide)]; rfl
  · unfold isValB; rw [if_neg (by decide), if_pos rfl]; rfl
  · unfold isValB; rw [if_neg (by decide), if_neg (by decide)]; rfl
theorem wtq {n : Nat} {v : Int32} {b : Bool} (h : wthn v (nI 0) (nI (n + 1) - nI 1) = b) : wthn v (nI 0) (nI n) = b := by
  rw [show nI (n + 1) - nI 1 = nI n from kx_pm1 (by omega)] at h; exact h
theorem ws_upd {z : ZZ} (h : WS z) {i : Nat} {v : Int32} (h3 : i ≠ 3) (hne : ∀ r, r < nR z → i ≠ 5 + 4 * r) : WS (upd z i v) := by
  intro a r h1 h2
  rw [nR_upd h3] at h2
  rw [upd_ne (Ne.symm (hne a (by omega))), upd_ne (Ne.symm (hne r h2))]
  exact h a r h1 h2
theorem wthn126_out {v : Int32} (h : wthn v (nI 33) (nI 126) = true) : ∃ j, 33 ≤ j ∧ j ≤ 126 ∧ v = nI j := by
  obtain ⟨h1, h2⟩ := wt_rng (lo := 33) (hi := 126) (by omega) (by omega) h
  have h0 : ¬ v < 0 := by
    rw [Int32.lt_iff_toInt_lt, show (0 : Int32).toInt = 0 from by decide]; omega
  obtain ⟨j, hj, rfl⟩ := nI_of h0
  rw [nI_toInt hj] at h1 h2
  exact ⟨j, by omega, by omega, rfl⟩
end
section
/-! ends and values that this claim wants of the class -/
section KR3
variable {p : Program} {l : Launch} {e : Env} {R : Room} {s : State} {m : MethodId} {args : Array Value} {below : List Frame} {meth : Method} {c : Code} {H : Heap} {cells slots : Nat} {cc : ByteArray}
theorem kr_vret (hexec : p.tables.exec = Jvm.exec) (hb : c.code = cc) (hr : meth.sig.returnType = none) (hlocks : meth.locks = false) (hH : H = s.heap) {pc : Nat} {ls : Array Slot} (hdg : decode cc pc = .ok (.return_, 1)) : W p l e R s m args below meth c H [] cells slots (MQ below (kr (.returned none)) args s cells slots (fun _ => False)) (F0 m pc ls []) :=
  W.vret hexec hb hr (fun t ht _ => ⟨rfl, ht.trans hH⟩) (fun _ h => absurd h List.not_mem_nil) hdg hlocks
end KR3
theorem vl_2 {q : Nat} {v : Int32} (hq : q < 3) (h : isValB (nI q) v = true) : ¬ v < lsA q ∧ ¬ msA q < v := by
  rw [isVal_q hq, Bool.and_eq_true, Bool.not_eq_true', Bool.not_eq_true', decide_eq_false_iff_not, decide_eq_false_iff_not] at h
  exact h
end
section
theorem dL_cell_0 : decode cL_cell 0 = .ok (.iload_n 1, 1) := by decide +kernel
theorem dL_cell_1 : decode cL_cell 1 = .ok (.aload_n 0, 1) := by decide +kernel
theorem dL_cell_2 : decode cL_cell 2 = .ok (.arraylength, 1) := by decide +kernel
theorem dL_cell_3 : decode cL_cell 3 = .ok (.if_icmp .ge 9, 3) := by decide +kernel
theorem dL_cell_6 : decode cL_cell 6 = .ok (.aload_n 0, 1) := by decide +kernel
theorem dL_cell_7 : decode cL_cell 7 = .ok (.iload_n 1, 1) := by decide +kernel
theorem dL_cell_8 : decode cL_cell 8 = .ok (.iaload, 1) := by decide +kernel
theorem dL_cell_9 : decode cL_cell 9 = .ok (.goto 11, 3) := by decide +kernel
theorem dL_cell_12 : decode cL_cell 12 = .ok (.ldc 7, 2) := by decide +kernel
theorem dL_cell_14 : decode cL_cell 14 = .ok (.iload_n 1, 1) := by decide +kernel
theorem dL_cell_15 : decode cL_cell 15 = .ok (.sipush 521, 3) := by decide +kernel
theorem dL_cell_18 : decode cL_cell 18 = .ok (.iadd, 1) := by decide +kernel
theorem dL_cell_19 : decode cL_cell 19 = .ok (.imul, 1) := by decide +kernel
theorem dL_cell_20 : decode cL_cell 20 = .ok (.ireturn, 1) := by decide +kernel
theorem dL_at_0 : decode cL_at 0 = .ok (.iload_n 0, 1) := by decide +kernel
theorem dL_at_1 : decode cL_at 1 = .ok (.iconst 1, 1) := by decide +kernel
theorem dL_at_2 : decode cL_at 2 = .ok (.iushr, 1) := by decide +kernel
theorem dL_at_3 : decode cL_at 3 = .ok (.iload_n 1, 1) := by decide +kernel
theorem dL_at_4 : decode cL_at 4 = .ok (.irem, 1) := by decide +kernel
theorem dL_at_5 : decode cL_at 5 = .ok (.ireturn, 1) := by decide +kernel
theorem dL_side_0 : decode cL_side 0 = .ok (.iconst 2, 1) := by decide +kernel
theorem dL_side_1 : decode cL_side 1 = .ok (.iload_n 2, 1) := by decide +kernel
theorem dL_side_2 : decode cL_side 2 = .ok (.imul, 1) := by decide +kernel
theorem dL_side_3 : decode cL_side 3 = .ok (.iconst 1, 1) := by decide +kernel
theorem dL_side_4 : decode cL_side 4 = .ok (.iadd, 1) := by decide +kernel
theorem dL_side_5 : decode cL_side 5 = .ok (.aload_n 0, 1) := by decide +kernel
theorem dL_side_6 : decode cL_side 6 = .ok (.iconst 4, 1) := by decide +kernel
theorem dL_side_7 : decode cL_side 7 = .ok (.iload_n 1, 1) := by decide +kernel
theorem dL_side_8 : decode cL_side 8 = .ok (.imul, 1) := by decide +kernel
theorem dL_side_9 : decode cL_side 9 = .ok (.iconst 2, 1) := by decide +kernel
theorem dL_side_10 : decode cL_side 10 = .ok (.iadd, 1) := by decide +kernel
theorem dL_side_11 : decode cL_side 11 = .ok (.iaload, 1) := by decide +kernel
theorem dL_side_12 : decode cL_side 12 = .ok (.isub, 1) := by decide +kernel
theorem dL_side_13 : decode cL_side 13 = .ok (.ireturn, 1) := by decide +kernel
set_option maxRecDepth 20000 in
theorem ggL_inWay_L_side : GoodIn wsL_inWay wsL_side := goodIn_r _ [4] (by decide +kernel) (by decide +kernel)
set_option maxRecDepth 20000 in
theorem gL_inWay_L_side : GoodIn wsL_inWay (va_wsS RL 8 yL_side wsL_side) := goodIn_app (goodIn_of _ (by decide +kernel)) ggL_inWay_L_side
theorem dL_inWay_0 : decode cL_inWay 0 = .ok (.aload_n 1, 1) := by decide +kernel
theorem dL_inWay_1 : decode cL_inWay 1 = .ok (.iconst 4, 1) := by decide +kernel
theorem dL_inWay_2 : decode cL_inWay 2 = .ok (.iload_n 2, 1) := by decide +kernel
theorem dL_inWay_3 : decode cL_inWay 3 = .ok (.imul, 1) := by decide +kernel
theorem dL_inWay_4 : decode cL_inWay 4 = .ok (.iaload, 1) := by decide +kernel
theorem dL_inWay_5 : decode cL_inWay 5 = .ok (.aload_n 1, 1) := by decide +kernel
theorem dL_inWay_6 : decode cL_inWay 6 = .ok (.iconst 4, 1) := by decide +kernel
theorem dL_inWay_7 : decode cL_inWay 7 = .ok (.iload 4, 2) := by decide +kernel
theorem dL_inWay_9 : decode cL_inWay 9 = .ok (.imul, 1) := by decide +kernel
theorem dL_inWay_10 : decode cL_inWay 10 = .ok (.iaload, 1) := by decide +kernel
theorem dL_inWay_11 : decode cL_inWay 11 = .ok (.if_icmp .lt 5, 3) := by decide +kernel
theorem dL_inWay_14 : decode cL_inWay 14 = .ok (.iconst 0, 1) := by decide +kernel
theorem dL_inWay_15 : decode cL_inWay 15 = .ok (.ireturn, 1) := by decide +kernel
theorem dL_inWay_16 : decode cL_inWay 16 = .ok (.aload_n 1, 1) := by decide +kernel
theorem dL_inWay_17 : decode cL_inWay 17 = .ok (.iconst 4, 1) := by decide +kernel
theorem dL_inWay_18 : decode cL_inWay 18 = .ok (.iload_n 2, 1) := by decide +kernel
theorem dL_inWay_19 : decode cL_inWay 19 = .ok (.imul, 1) := by decide +kernel
theorem dL_inWay_20 : decode cL_inWay 20 = .ok (.iconst 1, 1) := by decide +kernel
theorem dL_inWay_21 : decode cL_inWay 21 = .ok (.iadd, 1) := by decide +kernel
theorem dL_inWay_22 : decode cL_inWay 22 = .ok (.iaload, 1) := by decide +kernel
theorem dL_inWay_23 : decode cL_inWay 23 = .ok (.aload_n 0, 1) := by decide +kernel
theorem dL_inWay_24 : decode cL_inWay 24 = .ok (.iconst 4, 1) := by decide +kernel
theorem dL_inWay_25 : decode cL_inWay 25 = .ok (.iaload, 1) := by decide +kernel
theorem dL_inWay_26 : decode cL_inWay 26 = .ok (.iadd, 1) := by decide +kernel
theorem dL_inWay_27 : decode cL_inWay 27 = .ok (.aload_n 0, 1) := by decide +kernel
theorem dL_inWay_28 : decode cL_inWay 28 = .ok (.iconst 5, 1) := by decide +kernel
theorem dL_inWay_29 : decode cL_inWay 29 = .ok (.iaload, 1) := by decide +kernel
theorem dL_inWay_30 : decode cL_inWay 30 = .ok (.iadd, 1) := by decide +kernel
theorem dL_inWay_31 : decode cL_inWay 31 = .ok (.aload_n 0, 1) := by decide +kernel
theorem dL_inWay_32 : decode cL_inWay 32 = .ok (.iconst 3, 1) := by decide +kernel
theorem dL_inWay_33 : decode cL_inWay 33 = .ok (.iaload, 1) := by decide +kernel
theorem dL_inWay_34 : decode cL_inWay 34 = .ok (.isub, 1) := by decide +kernel
theorem dL_inWay_35 : decode cL_inWay 35 = .ok (.i2l, 1) := by decide +kernel
theorem dL_inWay_36 : decode cL_inWay 36 = .ok (.aload_n 1, 1) := by decide +kernel
theorem dL_inWay_37 : decode cL_inWay 37 = .ok (.iconst 4, 1) := by decide +kernel
theorem dL_inWay_38 : decode cL_inWay 38 = .ok (.iload 4, 2) := by decide +kernel
theorem dL_inWay_40 : decode cL_inWay 40 = .ok (.imul, 1) := by decide +kernel
theorem dL_inWay_41 : decode cL_inWay 41 = .ok (.iaload, 1) := by decide +kernel
theorem dL_inWay_42 : decode cL_inWay 42 = .ok (.i2l, 1) := by decide +kernel
theorem dL_inWay_43 : decode cL_inWay 43 = .ok (.lmul, 1) := by decide +kernel
theorem dL_inWay_44 : decode cL_inWay 44 = .ok (.lstore 6, 2) := by decide +kernel
theorem dL_inWay_46 : decode cL_inWay 46 = .ok (.aload_n 1, 1) := by decide +kernel
theorem dL_inWay_47 : decode cL_inWay 47 = .ok (.iconst 4, 1) := by decide +kernel
theorem dL_inWay_48 : decode cL_inWay 48 = .ok (.iload 4, 2) := by decide +kernel
theorem dL_inWay_50 : decode cL_inWay 50 = .ok (.imul, 1) := by decide +kernel
theorem dL_inWay_51 : decode cL_inWay 51 = .ok (.iconst 1, 1) := by decide +kernel
theorem dL_inWay_52 : decode cL_inWay 52 = .ok (.iadd, 1) := by decide +kernel
theorem dL_inWay_53 : decode cL_inWay 53 = .ok (.iaload, 1) := by decide +kernel
theorem dL_inWay_54 : decode cL_inWay 54 = .ok (.aload_n 0, 1) := by decide +kernel
theorem dL_inWay_55 : decode cL_inWay 55 = .ok (.iconst 4, 1) := by decide +kernel
theorem dL_inWay_56 : decode cL_inWay 56 = .ok (.iaload, 1) := by decide +kernel
theorem dL_inWay_57 : decode cL_inWay 57 = .ok (.iadd, 1) := by decide +kernel
theorem dL_inWay_58 : decode cL_inWay 58 = .ok (.aload_n 0, 1) := by decide +kernel
theorem dL_inWay_59 : decode cL_inWay 59 = .ok (.iconst 3, 1) := by decide +kernel
theorem dL_inWay_60 : decode cL_inWay 60 = .ok (.iaload, 1) := by decide +kernel
theorem dL_inWay_61 : decode cL_inWay 61 = .ok (.isub, 1) := by decide +kernel
theorem dL_inWay_62 : decode cL_inWay 62 = .ok (.i2l, 1) := by decide +kernel
theorem dL_inWay_63 : decode cL_inWay 63 = .ok (.aload_n 1, 1) := by decide +kernel
theorem dL_inWay_64 : decode cL_inWay 64 = .ok (.iconst 4, 1) := by decide +kernel
theorem dL_inWay_65 : decode cL_inWay 65 = .ok (.iload_n 2, 1) := by decide +kernel
theorem dL_inWay_66 : decode cL_inWay 66 = .ok (.imul, 1) := by decide +kernel
theorem dL_inWay_67 : decode cL_inWay 67 = .ok (.iaload, 1) := by decide +kernel
theorem dL_inWay_68 : decode cL_inWay 68 = .ok (.i2l, 1) := by decide +kernel
theorem dL_inWay_69 : decode cL_inWay 69 = .ok (.lmul, 1) := by decide +kernel
theorem dL_inWay_70 : decode cL_inWay 70 = .ok (.lstore 8, 2) := by decide +kernel
theorem dL_inWay_72 : decode cL_inWay 72 = .ok (.aload_n 1, 1) := by decide +kernel
theorem dL_inWay_73 : decode cL_inWay 73 = .ok (.iload_n 2, 1) := by decide +kernel
theorem dL_inWay_74 : decode cL_inWay 74 = .ok (.iload_n 3, 1) := by decide +kernel
theorem dL_inWay_75 : decode cL_inWay 75 = .ok (.invokestatic 8, 3) := by decide +kernel
theorem dL_inWay_78 : decode cL_inWay 78 = .ok (.aload_n 1, 1) := by decide +kernel
theorem dL_inWay_79 : decode cL_inWay 79 = .ok (.iconst 4, 1) := by decide +kernel
theorem dL_inWay_80 : decode cL_inWay 80 = .ok (.iload 4, 2) := by decide +kernel
theorem dL_inWay_82 : decode cL_inWay 82 = .ok (.imul, 1) := by decide +kernel
theorem dL_inWay_83 : decode cL_inWay 83 = .ok (.iaload, 1) := by decide +kernel
theorem dL_inWay_84 : decode cL_inWay 84 = .ok (.imul, 1) := by decide +kernel
theorem dL_inWay_85 : decode cL_inWay 85 = .ok (.aload_n 1, 1) := by decide +kernel
theorem dL_inWay_86 : decode cL_inWay 86 = .ok (.iload 4, 2) := by decide +kernel
theorem dL_inWay_88 : decode cL_inWay 88 = .ok (.iload 5, 2) := by decide +kernel
theorem dL_inWay_90 : decode cL_inWay 90 = .ok (.invokestatic 8, 3) := by decide +kernel
theorem dL_inWay_93 : decode cL_inWay 93 = .ok (.aload_n 1, 1) := by decide +kernel
theorem dL_inWay_94 : decode cL_inWay 94 = .ok (.iconst 4, 1) := by decide +kernel
theorem dL_inWay_95 : decode cL_inWay 95 = .ok (.iload_n 2, 1) := by decide +kernel
theorem dL_inWay_96 : decode cL_inWay 96 = .ok (.imul, 1) := by decide +kernel
theorem dL_inWay_97 : decode cL_inWay 97 = .ok (.iaload, 1) := by decide +kernel
theorem dL_inWay_98 : decode cL_inWay 98 = .ok (.imul, 1) := by decide +kernel
theorem dL_inWay_99 : decode cL_inWay 99 = .ok (.isub, 1) := by decide +kernel
theorem dL_inWay_100 : decode cL_inWay 100 = .ok (.istore 10, 2) := by decide +kernel
theorem dL_inWay_102 : decode cL_inWay 102 = .ok (.lload 6, 2) := by decide +kernel
theorem dL_inWay_104 : decode cL_inWay 104 = .ok (.lload 8, 2) := by decide +kernel
theorem dL_inWay_106 : decode cL_inWay 106 = .ok (.lcmp, 1) := by decide +kernel
theorem dL_inWay_107 : decode cL_inWay 107 = .ok (.ifCond .le 30, 3) := by decide +kernel
theorem dL_inWay_110 : decode cL_inWay 110 = .ok (.iload 10, 2) := by decide +kernel
theorem dL_inWay_112 : decode cL_inWay 112 = .ok (.aload_n 1, 1) := by decide +kernel
theorem dL_inWay_113 : decode cL_inWay 113 = .ok (.iconst 4, 1) := by decide +kernel
theorem dL_inWay_114 : decode cL_inWay 114 = .ok (.iload 4, 2) := by decide +kernel
theorem dL_inWay_116 : decode cL_inWay 116 = .ok (.imul, 1) := by decide +kernel
theorem dL_inWay_117 : decode cL_inWay 117 = .ok (.iaload, 1) := by decide +kernel
theorem dL_inWay_118 : decode cL_inWay 118 = .ok (.if_icmp .ge 19, 3) := by decide +kernel
theorem dL_inWay_121 : decode cL_inWay 121 = .ok (.iload 10, 2) := by decide +kernel
theorem dL_inWay_123 : decode cL_inWay 123 = .ok (.ineg, 1) := by decide +kernel
theorem dL_inWay_124 : decode cL_inWay 124 = .ok (.aload_n 1, 1) := by decide +kernel
theorem dL_inWay_125 : decode cL_inWay 125 = .ok (.iconst 4, 1) := by decide +kernel
theorem dL_inWay_126 : decode cL_inWay 126 = .ok (.iload 4, 2) := by decide +kernel
theorem dL_inWay_128 : decode cL_inWay 128 = .ok (.imul, 1) := by decide +kernel
theorem dL_inWay_129 : decode cL_inWay 129 = .ok (.iaload, 1) := by decide +kernel
theorem dL_inWay_130 : decode cL_inWay 130 = .ok (.if_icmp .ge 7, 3) := by decide +kernel
theorem dL_inWay_133 : decode cL_inWay 133 = .ok (.iconst 1, 1) := by decide +kernel
theorem dL_inWay_134 : decode cL_inWay 134 = .ok (.goto 4, 3) := by decide +kernel
theorem dL_inWay_137 : decode cL_inWay 137 = .ok (.iconst 0, 1) := by decide +kernel
theorem dL_inWay_138 : decode cL_inWay 138 = .ok (.ireturn, 1) := by decide +kernel
set_option maxRecDepth 20000 in
theorem ggL_people_L_inWay : GoodIn wsL_people wsL_inWay := goodIn_r _ [4, 5, 6, 3, 7] (by decide +kernel) (by decide +kernel)
set_option maxRecDepth 20000 in
theorem gL_people_L_inWay : GoodIn wsL_people (va_wsS RL 14 yL_inWay wsL_inWay) := goodIn_app (goodIn_of _ (by decide +kernel)) ggL_people_L_inWay
theorem dL_people_0 : decode cL_people 0 = .ok (.iconst 0, 1) := by decide +kernel
theorem dL_people_1 : decode cL_people 1 = .ok (.istore 4, 2) := by decide +kernel
theorem dL_people_3 : decode cL_people 3 = .ok (.iconst 0, 1) := by decide +kernel
theorem dL_people_4 : decode cL_people 4 = .ok (.istore 5, 2) := by decide +kernel
theorem dL_people_6 : decode cL_people 6 = .ok (.iload 5, 2) := by decide +kernel
theorem dL_people_8 : decode cL_people 8 = .ok (.aload_n 0, 1) := by decide +kernel
theorem dL_people_9 : decode cL_people 9 = .ok (.iconst 0, 1) := by decide +kernel
theorem dL_people_10 : decode cL_people 10 = .ok (.iaload, 1) := by decide +kernel
theorem dL_people_11 : decode cL_people 11 = .ok (.if_icmp .ge 65, 3) := by decide +kernel
theorem dL_people_14 : decode cL_people 14 = .ok (.iconst 0, 1) := by decide +kernel
theorem dL_people_15 : decode cL_people 15 = .ok (.istore 6, 2) := by decide +kernel
theorem dL_people_17 : decode cL_people 17 = .ok (.iload 6, 2) := by decide +kernel
theorem dL_people_19 : decode cL_people 19 = .ok (.aload_n 1, 1) := by decide +kernel
theorem dL_people_20 : decode cL_people 20 = .ok (.iconst 4, 1) := by decide +kernel
theorem dL_people_21 : decode cL_people 21 = .ok (.iload 5, 2) := by decide +kernel
theorem dL_people_23 : decode cL_people 23 = .ok (.imul, 1) := by decide +kernel
theorem dL_people_24 : decode cL_people 24 = .ok (.iconst 2, 1) := by decide +kernel
theorem dL_people_25 : decode cL_people 25 = .ok (.iadd, 1) := by decide +kernel
theorem dL_people_26 : decode cL_people 26 = .ok (.iaload, 1) := by decide +kernel
theorem dL_people_27 : decode cL_people 27 = .ok (.if_icmp .ge 43, 3) := by decide +kernel
theorem dL_people_30 : decode cL_people 30 = .ok (.aload_n 1, 1) := by decide +kernel
theorem dL_people_31 : decode cL_people 31 = .ok (.iconst 4, 1) := by decide +kernel
theorem dL_people_32 : decode cL_people 32 = .ok (.iload 5, 2) := by decide +kernel
theorem dL_people_34 : decode cL_people 34 = .ok (.imul, 1) := by decide +kernel
theorem dL_people_35 : decode cL_people 35 = .ok (.iconst 3, 1) := by decide +kernel
theorem dL_people_36 : decode cL_people 36 = .ok (.iadd, 1) := by decide +kernel
theorem dL_people_37 : decode cL_people 37 = .ok (.iaload, 1) := by decide +kernel
theorem dL_people_38 : decode cL_people 38 = .ok (.iload 6, 2) := by decide +kernel
theorem dL_people_40 : decode cL_people 40 = .ok (.ishr, 1) := by decide +kernel
theorem dL_people_41 : decode cL_people 41 = .ok (.iconst 1, 1) := by decide +kernel
theorem dL_people_42 : decode cL_people 42 = .ok (.iand, 1) := by decide +kernel
theorem dL_people_43 : decode cL_people 43 = .ok (.iconst 1, 1) := by decide +kernel
theorem dL_people_44 : decode cL_people 44 = .ok (.if_icmp .ne 20, 3) := by decide +kernel
theorem dL_people_47 : decode cL_people 47 = .ok (.aload_n 0, 1) := by decide +kernel
theorem dL_people_48 : decode cL_people 48 = .ok (.aload_n 1, 1) := by decide +kernel
theorem dL_people_49 : decode cL_people 49 = .ok (.iload 5, 2) := by decide +kernel
theorem dL_people_51 : decode cL_people 51 = .ok (.iload 6, 2) := by decide +kernel
theorem dL_people_53 : decode cL_people 53 = .ok (.iload_n 2, 1) := by decide +kernel
theorem dL_people_54 : decode cL_people 54 = .ok (.iload_n 3, 1) := by decide +kernel
theorem dL_people_55 : decode cL_people 55 = .ok (.invokestatic 14, 3) := by decide +kernel
theorem dL_people_58 : decode cL_people 58 = .ok (.ifCond .eq 6, 3) := by decide +kernel
theorem dL_people_61 : decode cL_people 61 = .ok (.iinc 4 1, 3) := by decide +kernel
theorem dL_people_64 : decode cL_people 64 = .ok (.iinc 6 1, 3) := by decide +kernel
theorem dL_people_67 : decode cL_people 67 = .ok (.goto (-50), 3) := by decide +kernel
theorem dL_people_70 : decode cL_people 70 = .ok (.iinc 5 1, 3) := by decide +kernel
theorem dL_people_73 : decode cL_people 73 = .ok (.goto (-67), 3) := by decide +kernel
theorem dL_people_76 : decode cL_people 76 = .ok (.iload 4, 2) := by decide +kernel
theorem dL_people_78 : decode cL_people 78 = .ok (.ireturn, 1) := by decide +kernel
set_option maxRecDepth 20000 in
theorem ggL_columns_L_side : GoodIn wsL_columns wsL_side := goodIn_r _ [4] (by decide +kernel) (by decide +kernel)
set_option maxRecDepth 20000 in
theorem gL_columns_L_side : GoodIn wsL_columns (va_wsS RL 8 yL_side wsL_side) := goodIn_app (goodIn_of _ (by decide +kernel)) ggL_columns_L_side
theorem dL_columns_0 : decode cL_columns 0 = .ok (.iconst 0, 1) := by decide +kernel
theorem dL_columns_1 : decode cL_columns 1 = .ok (.istore 5, 2) := by decide +kernel
theorem dL_columns_3 : decode cL_columns 3 = .ok (.iconst 0, 1) := by decide +kernel
theorem dL_columns_4 : decode cL_columns 4 = .ok (.istore 6, 2) := by decide +kernel
theorem dL_columns_6 : decode cL_columns 6 = .ok (.iload 6, 2) := by decide +kernel
theorem dL_columns_8 : decode cL_columns 8 = .ok (.aload_n 0, 1) := by decide +kernel
theorem dL_columns_9 : decode cL_columns 9 = .ok (.iconst 1, 1) := by decide +kernel
theorem dL_columns_10 : decode cL_columns 10 = .ok (.iaload, 1) := by decide +kernel
theorem dL_columns_11 : decode cL_columns 11 = .ok (.if_icmp .ge 88, 3) := by decide +kernel
theorem dL_columns_14 : decode cL_columns 14 = .ok (.aload_n 2, 1) := by decide +kernel
theorem dL_columns_15 : decode cL_columns 15 = .ok (.iconst 3, 1) := by decide +kernel
theorem dL_columns_16 : decode cL_columns 16 = .ok (.iload 6, 2) := by decide +kernel
theorem dL_columns_18 : decode cL_columns 18 = .ok (.imul, 1) := by decide +kernel
theorem dL_columns_19 : decode cL_columns 19 = .ok (.iconst 1, 1) := by decide +kernel
theorem dL_columns_20 : decode cL_columns 20 = .ok (.iadd, 1) := by decide +kernel
theorem dL_columns_21 : decode cL_columns 21 = .ok (.iaload, 1) := by decide +kernel
theorem dL_columns_22 : decode cL_columns 22 = .ok (.aload_n 1, 1) := by decide +kernel
theorem dL_columns_23 : decode cL_columns 23 = .ok (.iconst 4, 1) := by decide +kernel
theorem dL_columns_24 : decode cL_columns 24 = .ok (.iload_n 3, 1) := by decide +kernel
theorem dL_columns_25 : decode cL_columns 25 = .ok (.imul, 1) := by decide +kernel
theorem dL_columns_26 : decode cL_columns 26 = .ok (.iaload, 1) := by decide +kernel
theorem dL_columns_27 : decode cL_columns 27 = .ok (.imul, 1) := by decide +kernel
theorem dL_columns_28 : decode cL_columns 28 = .ok (.aload_n 1, 1) := by decide +kernel
theorem dL_columns_29 : decode cL_columns 29 = .ok (.iload_n 3, 1) := by decide +kernel
theorem dL_columns_30 : decode cL_columns 30 = .ok (.iload 4, 2) := by decide +kernel
theorem dL_columns_32 : decode cL_columns 32 = .ok (.invokestatic 8, 3) := by decide +kernel
theorem dL_columns_35 : decode cL_columns 35 = .ok (.aload_n 2, 1) := by decide +kernel
theorem dL_columns_36 : decode cL_columns 36 = .ok (.iconst 3, 1) := by decide +kernel
theorem dL_columns_37 : decode cL_columns 37 = .ok (.iload 6, 2) := by decide +kernel
theorem dL_columns_39 : decode cL_columns 39 = .ok (.imul, 1) := by decide +kernel
theorem dL_columns_40 : decode cL_columns 40 = .ok (.iaload, 1) := by decide +kernel
theorem dL_columns_41 : decode cL_columns 41 = .ok (.imul, 1) := by decide +kernel
theorem dL_columns_42 : decode cL_columns 42 = .ok (.isub, 1) := by decide +kernel
theorem dL_columns_43 : decode cL_columns 43 = .ok (.istore 7, 2) := by decide +kernel
theorem dL_columns_45 : decode cL_columns 45 = .ok (.aload_n 2, 1) := by decide +kernel
theorem dL_columns_46 : decode cL_columns 46 = .ok (.iconst 3, 1) := by decide +kernel
theorem dL_columns_47 : decode cL_columns 47 = .ok (.iload 6, 2) := by decide +kernel
theorem dL_columns_49 : decode cL_columns 49 = .ok (.imul, 1) := by decide +kernel
theorem dL_columns_50 : decode cL_columns 50 = .ok (.iconst 2, 1) := by decide +kernel
theorem dL_columns_51 : decode cL_columns 51 = .ok (.iadd, 1) := by decide +kernel
theorem dL_columns_52 : decode cL_columns 52 = .ok (.iaload, 1) := by decide +kernel
theorem dL_columns_53 : decode cL_columns 53 = .ok (.aload_n 1, 1) := by decide +kernel
theorem dL_columns_54 : decode cL_columns 54 = .ok (.iconst 4, 1) := by decide +kernel
theorem dL_columns_55 : decode cL_columns 55 = .ok (.iload_n 3, 1) := by decide +kernel
theorem dL_columns_56 : decode cL_columns 56 = .ok (.imul, 1) := by decide +kernel
theorem dL_columns_57 : decode cL_columns 57 = .ok (.iaload, 1) := by decide +kernel
theorem dL_columns_58 : decode cL_columns 58 = .ok (.imul, 1) := by decide +kernel
theorem dL_columns_59 : decode cL_columns 59 = .ok (.istore 8, 2) := by decide +kernel
theorem dL_columns_61 : decode cL_columns 61 = .ok (.aload_n 2, 1) := by decide +kernel
theorem dL_columns_62 : decode cL_columns 62 = .ok (.iconst 3, 1) := by decide +kernel
theorem dL_columns_63 : decode cL_columns 63 = .ok (.iload 6, 2) := by decide +kernel
theorem dL_columns_65 : decode cL_columns 65 = .ok (.imul, 1) := by decide +kernel
theorem dL_columns_66 : decode cL_columns 66 = .ok (.iaload, 1) := by decide +kernel
theorem dL_columns_67 : decode cL_columns 67 = .ok (.aload_n 1, 1) := by decide +kernel
theorem dL_columns_68 : decode cL_columns 68 = .ok (.iconst 4, 1) := by decide +kernel
theorem dL_columns_69 : decode cL_columns 69 = .ok (.iload_n 3, 1) := by decide +kernel
theorem dL_columns_70 : decode cL_columns 70 = .ok (.imul, 1) := by decide +kernel
theorem dL_columns_71 : decode cL_columns 71 = .ok (.iaload, 1) := by decide +kernel
theorem dL_columns_72 : decode cL_columns 72 = .ok (.if_icmp .ge 21, 3) := by decide +kernel
theorem dL_columns_75 : decode cL_columns 75 = .ok (.iload 7, 2) := by decide +kernel
theorem dL_columns_77 : decode cL_columns 77 = .ok (.iload 8, 2) := by decide +kernel
theorem dL_columns_79 : decode cL_columns 79 = .ok (.if_icmp .gt 14, 3) := by decide +kernel
theorem dL_columns_82 : decode cL_columns 82 = .ok (.iload 7, 2) := by decide +kernel
theorem dL_columns_84 : decode cL_columns 84 = .ok (.ineg, 1) := by decide +kernel
theorem dL_columns_85 : decode cL_columns 85 = .ok (.iload 8, 2) := by decide +kernel
theorem dL_columns_87 : decode cL_columns 87 = .ok (.if_icmp .gt 6, 3) := by decide +kernel
theorem dL_columns_90 : decode cL_columns 90 = .ok (.iinc 5 1, 3) := by decide +kernel
theorem dL_columns_93 : decode cL_columns 93 = .ok (.iinc 6 1, 3) := by decide +kernel
theorem dL_columns_96 : decode cL_columns 96 = .ok (.goto (-90), 3) := by decide +kernel
theorem dL_columns_99 : decode cL_columns 99 = .ok (.iload 5, 2) := by decide +kernel
theorem dL_columns_101 : decode cL_columns 101 = .ok (.ireturn, 1) := by decide +kernel
theorem dL_all_0 : decode cL_all 0 = .ok (.iconst 0, 1) := by decide +kernel
theorem dL_all_1 : decode cL_all 1 = .ok (.istore_n 3, 1) := by decide +kernel
theorem dL_all_2 : decode cL_all 2 = .ok (.iconst 0, 1) := by decide +kernel
theorem dL_all_3 : decode cL_all 3 = .ok (.istore 4, 2) := by decide +kernel
theorem dL_all_5 : decode cL_all 5 = .ok (.iload 4, 2) := by decide +kernel
theorem dL_all_7 : decode cL_all 7 = .ok (.aload_n 0, 1) := by decide +kernel
theorem dL_all_8 : decode cL_all 8 = .ok (.iconst 0, 1) := by decide +kernel
theorem dL_all_9 : decode cL_all 9 = .ok (.iaload, 1) := by decide +kernel
theorem dL_all_10 : decode cL_all 10 = .ok (.if_icmp .ge 55, 3) := by decide +kernel
theorem dL_all_13 : decode cL_all 13 = .ok (.iconst 0, 1) := by decide +kernel
theorem dL_all_14 : decode cL_all 14 = .ok (.istore 5, 2) := by decide +kernel
theorem dL_all_16 : decode cL_all 16 = .ok (.iload 5, 2) := by decide +kernel
theorem dL_all_18 : decode cL_all 18 = .ok (.aload_n 1, 1) := by decide +kernel
theorem dL_all_19 : decode cL_all 19 = .ok (.iconst 4, 1) := by decide +kernel
theorem dL_all_20 : decode cL_all 20 = .ok (.iload 4, 2) := by decide +kernel
theorem dL_all_22 : decode cL_all 22 = .ok (.imul, 1) := by decide +kernel
theorem dL_all_23 : decode cL_all 23 = .ok (.iconst 2, 1) := by decide +kernel
theorem dL_all_24 : decode cL_all 24 = .ok (.iadd, 1) := by decide +kernel
theorem dL_all_25 : decode cL_all 25 = .ok (.iaload, 1) := by decide +kernel
theorem dL_all_26 : decode cL_all 26 = .ok (.if_icmp .ge 33, 3) := by decide +kernel
theorem dL_all_29 : decode cL_all 29 = .ok (.iload_n 3, 1) := by decide +kernel
theorem dL_all_30 : decode cL_all 30 = .ok (.iload_n 2, 1) := by decide +kernel
theorem dL_all_31 : decode cL_all 31 = .ok (.ifCond .ne 7, 3) := by decide +kernel
theorem dL_all_34 : decode cL_all 34 = .ok (.iconst 1, 1) := by decide +kernel
theorem dL_all_35 : decode cL_all 35 = .ok (.goto 16, 3) := by decide +kernel
theorem dL_all_38 : decode cL_all 38 = .ok (.aload_n 1, 1) := by decide +kernel
theorem dL_all_39 : decode cL_all 39 = .ok (.iconst 4, 1) := by decide +kernel
theorem dL_all_40 : decode cL_all 40 = .ok (.iload 4, 2) := by decide +kernel
theorem dL_all_42 : decode cL_all 42 = .ok (.imul, 1) := by decide +kernel
theorem dL_all_43 : decode cL_all 43 = .ok (.iconst 3, 1) := by decide +kernel
theorem dL_all_44 : decode cL_all 44 = .ok (.iadd, 1) := by decide +kernel
theorem dL_all_45 : decode cL_all 45 = .ok (.iaload, 1) := by decide +kernel
theorem dL_all_46 : decode cL_all 46 = .ok (.iload 5, 2) := by decide +kernel
theorem dL_all_48 : decode cL_all 48 = .ok (.ishr, 1) := by decide +kernel
theorem dL_all_49 : decode cL_all 49 = .ok (.iconst 1, 1) := by decide +kernel
theorem dL_all_50 : decode cL_all 50 = .ok (.iand, 1) := by decide +kernel
theorem dL_all_51 : decode cL_all 51 = .ok (.iadd, 1) := by decide +kernel
theorem dL_all_52 : decode cL_all 52 = .ok (.istore_n 3, 1) := by decide +kernel
theorem dL_all_53 : decode cL_all 53 = .ok (.iinc 5 1, 3) := by decide +kernel
theorem dL_all_56 : decode cL_all 56 = .ok (.goto (-40), 3) := by decide +kernel
theorem dL_all_59 : decode cL_all 59 = .ok (.iinc 4 1, 3) := by decide +kernel
theorem dL_all_62 : decode cL_all 62 = .ok (.goto (-57), 3) := by decide +kernel
theorem dL_all_65 : decode cL_all 65 = .ok (.iload_n 3, 1) := by decide +kernel
theorem dL_all_66 : decode cL_all 66 = .ok (.ireturn, 1) := by decide +kernel
end
section
set_option maxRecDepth 20000 in
theorem ggL_builds_L_at : GoodIn wsL_builds wsL_at := goodIn_r _ [4] (by decide +kernel) (by decide +kernel)
set_option maxRecDepth 20000 in
theorem gL_builds_L_at : GoodIn wsL_builds (va_wsS RL 18 yL_at wsL_at) := goodIn_app (goodIn_of _ (by decide +kernel)) ggL_builds_L_at
set_option maxRecDepth 20000 in
theorem ggL_builds_X4_addRow : GoodIn wsL_builds wsX4_addRow := goodIn_ca (goodIn_ca (goodIn_r _ [9, 10, 11, 12, 13, 14, 15, 16, 8, 17, 18, 19, 20, 21, 22, 23, 24, 25, 26, 27, 28, 29, 30, 31, 32, 33, 34, 35, 36, 37, 38, 39, 40, 41, 42, 43, 44, 45, 46, 47, 48, 49, 50, 51, 52, 53, 54, 55, 56, 57, 58, 59, 60, 61, 62, 63, 64, 65, 66, 67, 68, 69, 70, 71, 130, 131, 132, 133, 134, 135, 136, 137, 138, 139, 140, 141, 142, 143, 144, 145, 146, 147, 148, 149, 150, 151] (by decide +kernel) (by decide +kernel)) (goodIn_sub (fun _ h => List.mem_cons_of_mem _ (List.mem_append_left _ (List.mem_append_left _ (List.mem_append_right _ h)))) (by decide +kernel))) (goodIn_sub (fun _ h => List.mem_cons_of_mem _ (List.mem_append_left _ (List.mem_append_right _ h))) (by decide +kernel))
set_option maxRecDepth 20000 in
theorem gL_builds_X4_addRow : GoodIn wsL_builds (wsV RL 22 RX4 yX4_addRow wsX4_addRow) := goodIn_app (goodIn_of _ (by decide +kernel)) ggL_builds_X4_addRow
set_option maxRecDepth 20000 in
theorem ggL_builds_X4_removeRow : GoodIn wsL_builds wsX4_removeRow := goodIn_ca (goodIn_r _ [75, 14, 76, 77, 78, 8, 79, 80, 81, 82, 25, 26, 27, 28, 29, 30, 31, 32, 33, 34, 35, 36, 37, 38, 39, 40, 41, 42, 43, 44, 21, 45, 23, 24, 46, 47, 48, 49, 50, 51, 52, 53, 54, 55, 56, 57, 58, 59, 60, 61, 62, 63, 83, 84, 85, 86, 68, 69, 70, 71, 87, 88, 89, 90, 130, 131, 132, 133, 134, 135, 136, 137, 138, 139, 140, 141, 142, 143, 144, 145, 146, 147, 148, 149, 150, 151] (by decide +kernel) (by decide +kernel)) (goodIn_sub (fun _ h => List.mem_cons_of_mem _ (List.mem_append_right _ h)) (by decide +kernel))
set_option maxRecDepth 20000 in
theorem gL_builds_X4_removeRow : GoodIn wsL_builds (wsV RL 28 RX4 yX4_removeRow wsX4_removeRow) := goodIn_app (goodIn_of _ (by decide +kernel)) ggL_builds_X4_removeRow
set_option maxRecDepth 20000 in
theorem ggL_builds_L_all : GoodIn wsL_builds wsL_all := goodIn_r _ [93] (by decide +kernel) (by decide +kernel)
set_option maxRecDepth 20000 in
theorem gL_builds_L_all : GoodIn wsL_builds (va_wsS RL 32 yL_all wsL_all) := goodIn_app (goodIn_of _ (by decide +kernel)) ggL_builds_L_all
set_option maxRecDepth 20000 in
theorem ggL_builds_X4_removeColumn : GoodIn wsL_builds wsX4_removeColumn := goodIn_ca (goodIn_r _ [97, 14, 98, 99, 100, 101, 8, 102, 80, 81, 25, 26, 27, 28, 29, 30, 31, 32, 33, 34, 35, 36, 37, 38, 39, 40, 41, 42, 43, 44, 21, 45, 23, 24, 46, 47, 48, 49, 50, 51, 52, 53, 54, 55, 56, 57, 58, 59, 60, 61, 62, 63, 103, 104, 105, 106, 130, 131, 132, 133, 134, 135, 136, 137, 138, 139, 140, 141, 142, 143, 144, 145, 146, 147, 148, 149, 150, 151] (by decide +kernel) (by decide +kernel)) (goodIn_sub (fun _ h => List.mem_cons_of_mem _ (List.mem_append_right _ h)) (by decide +kernel))
set_option maxRecDepth 20000 in
theorem gL_builds_X4_removeColumn : GoodIn wsL_builds (wsV RL 36 RX4 yX4_removeColumn wsX4_removeColumn) := goodIn_app (goodIn_of _ (by decide +kernel)) ggL_builds_X4_removeColumn
set_option maxRecDepth 20000 in
theorem ggL_builds_X4_addColumn : GoodIn wsL_builds wsX4_addColumn := goodIn_ca (goodIn_ca (goodIn_r _ [110, 10, 11, 12, 13, 14, 98, 25, 26, 27, 8, 28, 29, 30, 31, 32, 33, 34, 35, 36, 37, 38, 39, 40, 41, 42, 43, 44, 21, 45, 23, 24, 46, 47, 48, 49, 50, 51, 52, 53, 54, 55, 56, 57, 58, 59, 60, 61, 62, 63, 111, 112, 113, 114, 130, 131, 132, 133, 134, 135, 136, 137, 138, 139, 140, 141, 142, 143, 144, 145, 146, 147, 148, 149, 150, 151] (by decide +kernel) (by decide +kernel)) (goodIn_sub (fun _ h => List.mem_cons_of_mem _ (List.mem_append_left _ (List.mem_append_left _ (List.mem_append_right _ h)))) (by decide +kernel))) (goodIn_sub (fun _ h => List.mem_cons_of_mem _ (List.mem_append_left _ (List.mem_append_right _ h))) (by decide +kernel))
set_option maxRecDepth 20000 in
theorem gL_builds_X4_addColumn : GoodIn wsL_builds (wsV RL 39 RX4 yX4_addColumn wsX4_addColumn) := goodIn_app (goodIn_of _ (by decide +kernel)) ggL_builds_X4_addColumn
set_option maxRecDepth 20000 in
theorem ggL_builds_X4_lift : GoodIn wsL_builds wsX4_lift := goodIn_ca (goodIn_ca (goodIn_r _ [118, 14, 119, 76, 77, 78, 8, 79, 80, 81, 82, 15, 16, 17, 10, 11, 25, 26, 27, 28, 29, 30, 31, 32, 33, 34, 35, 36, 37, 38, 39, 40, 41, 42, 43, 44, 21, 45, 23, 24, 46, 47, 48, 49, 50, 51, 52, 53, 54, 55, 56, 57, 58, 59, 60, 61, 62, 63, 130, 131, 132, 133, 134, 135, 136, 137, 138, 139, 140, 141, 142, 143, 144, 145, 146, 147, 148, 149, 150, 151] (by decide +kernel) (by decide +kernel)) (goodIn_sub (fun _ h => List.mem_cons_of_mem _ (List.mem_append_right _ h)) (by decide +kernel))) (goodIn_sub (fun _ h => List.mem_cons_of_mem _ (List.mem_append_left _ (List.mem_append_left _ (List.mem_append_right _ h)))) (by decide +kernel))
set_option maxRecDepth 20000 in
theorem gL_builds_X4_lift : GoodIn wsL_builds (wsV RL 42 RX4 yX4_lift wsX4_lift) := goodIn_app (goodIn_of _ (by decide +kernel)) ggL_builds_X4_lift
set_option maxRecDepth 20000 in
theorem ggL_builds_X4_set : GoodIn wsL_builds wsX4_set := goodIn_ca (goodIn_ca (goodIn_r _ [123, 10, 11, 124, 125, 14, 126, 127, 128, 8, 129, 80, 81, 25, 26, 27, 28, 29, 30, 31, 32, 33, 34, 35, 36, 37, 38, 39, 40, 41, 42, 43, 44, 21, 45, 23, 24, 46, 47, 48, 49, 50, 51, 52, 53, 54, 55, 56, 57, 58, 59, 60, 61, 62, 63, 130, 131, 132, 133, 134, 135, 136, 137, 138, 139, 140, 141, 142, 143, 144, 145, 146, 147, 148, 149, 150, 151] (by decide +kernel) (by decide +kernel)) (goodIn_sub (fun _ h => List.mem_cons_of_mem _ (List.mem_append_left _ (List.mem_append_left _ (List.mem_append_right _ h)))) (by decide +kernel))) (goodIn_sub (fun _ h => List.mem_cons_of_mem _ (List.mem_append_right _ h)) (by decide +kernel))
set_option maxRecDepth 20000 in
theorem gL_builds_X4_set : GoodIn wsL_builds (wsV RL 45 RX4 yX4_set wsX4_set) := goodIn_app (goodIn_of _ (by decide +kernel)) ggL_builds_X4_set
theorem dL_builds_0 : decode cL_builds 0 = .ok (.iload_n 1, 1) := by decide +kernel
theorem dL_builds_1 : decode cL_builds 1 = .ok (.bipush 8, 2) := by decide +kernel
theorem dL_builds_3 : decode cL_builds 3 = .ok (.invokestatic 18, 3) := by decide +kernel
theorem dL_builds_6 : decode cL_builds 6 = .ok (.istore 6, 2) := by decide +kernel
theorem dL_builds_8 : decode cL_builds 8 = .ok (.aload_n 3, 1) := by decide +kernel
theorem dL_builds_9 : decode cL_builds 9 = .ok (.iconst 0, 1) := by decide +kernel
theorem dL_builds_10 : decode cL_builds 10 = .ok (.iaload, 1) := by decide +kernel
theorem dL_builds_11 : decode cL_builds 11 = .ok (.ifCond .eq 17, 3) := by decide +kernel
theorem dL_builds_14 : decode cL_builds 14 = .ok (.iload 6, 2) := by decide +kernel
theorem dL_builds_16 : decode cL_builds 16 = .ok (.iconst 3, 1) := by decide +kernel
theorem dL_builds_17 : decode cL_builds 17 = .ok (.if_icmp .ge 227, 3) := by decide +kernel
theorem dL_builds_20 : decode cL_builds 20 = .ok (.aload_n 3, 1) := by decide +kernel
theorem dL_builds_21 : decode cL_builds 21 = .ok (.iconst 0, 1) := by decide +kernel
theorem dL_builds_22 : decode cL_builds 22 = .ok (.iaload, 1) := by decide +kernel
theorem dL_builds_23 : decode cL_builds 23 = .ok (.bipush 6, 2) := by decide +kernel
theorem dL_builds_25 : decode cL_builds 25 = .ok (.if_icmp .ge 219, 3) := by decide +kernel
theorem dL_builds_28 : decode cL_builds 28 = .ok (.iconst 1, 1) := by decide +kernel
theorem dL_builds_29 : decode cL_builds 29 = .ok (.iload_n 2, 1) := by decide +kernel
theorem dL_builds_30 : decode cL_builds 30 = .ok (.bipush 60, 2) := by decide +kernel
theorem dL_builds_32 : decode cL_builds 32 = .ok (.invokestatic 18, 3) := by decide +kernel
theorem dL_builds_35 : decode cL_builds 35 = .ok (.iadd, 1) := by decide +kernel
theorem dL_builds_36 : decode cL_builds 36 = .ok (.istore 7, 2) := by decide +kernel
theorem dL_builds_38 : decode cL_builds 38 = .ok (.iload_n 2, 1) := by decide +kernel
theorem dL_builds_39 : decode cL_builds 39 = .ok (.bipush 6, 2) := by decide +kernel
theorem dL_builds_41 : decode cL_builds 41 = .ok (.ishr, 1) := by decide +kernel
theorem dL_builds_42 : decode cL_builds 42 = .ok (.sipush 150, 3) := by decide +kernel
theorem dL_builds_45 : decode cL_builds 45 = .ok (.invokestatic 18, 3) := by decide +kernel
theorem dL_builds_48 : decode cL_builds 48 = .ok (.istore 8, 2) := by decide +kernel
theorem dL_builds_50 : decode cL_builds 50 = .ok (.iconst 1, 1) := by decide +kernel
theorem dL_builds_51 : decode cL_builds 51 = .ok (.iload_n 1, 1) := by decide +kernel
theorem dL_builds_52 : decode cL_builds 52 = .ok (.iconst 4, 1) := by decide +kernel
theorem dL_builds_53 : decode cL_builds 53 = .ok (.ishr, 1) := by decide +kernel
theorem dL_builds_54 : decode cL_builds 54 = .ok (.bipush 8, 2) := by decide +kernel
theorem dL_builds_56 : decode cL_builds 56 = .ok (.invokestatic 18, 3) := by decide +kernel
theorem dL_builds_59 : decode cL_builds 59 = .ok (.iadd, 1) := by decide +kernel
theorem dL_builds_60 : decode cL_builds 60 = .ok (.istore 9, 2) := by decide +kernel
theorem dL_builds_62 : decode cL_builds 62 = .ok (.aload_n 3, 1) := by decide +kernel
theorem dL_builds_63 : decode cL_builds 63 = .ok (.iconst 0, 1) := by decide +kernel
theorem dL_builds_64 : decode cL_builds 64 = .ok (.iaload, 1) := by decide +kernel
theorem dL_builds_65 : decode cL_builds 65 = .ok (.istore 10, 2) := by decide +kernel
theorem dL_builds_67 : decode cL_builds 67 = .ok (.iconst 0, 1) := by decide +kernel
theorem dL_builds_68 : decode cL_builds 68 = .ok (.istore 11, 2) := by decide +kernel
theorem dL_builds_70 : decode cL_builds 70 = .ok (.iload 11, 2) := by decide +kernel
theorem dL_builds_72 : decode cL_builds 72 = .ok (.aload_n 3, 1) := by decide +kernel
theorem dL_builds_73 : decode cL_builds 73 = .ok (.iconst 0, 1) := by decide +kernel
theorem dL_builds_74 : decode cL_builds 74 = .ok (.iaload, 1) := by decide +kernel
theorem dL_builds_75 : decode cL_builds 75 = .ok (.if_icmp .ge 23, 3) := by decide +kernel
theorem dL_builds_78 : decode cL_builds 78 = .ok (.aload 4, 2) := by decide +kernel
theorem dL_builds_80 : decode cL_builds 80 = .ok (.iconst 4, 1) := by decide +kernel
theorem dL_builds_81 : decode cL_builds 81 = .ok (.iload 11, 2) := by decide +kernel
theorem dL_builds_83 : decode cL_builds 83 = .ok (.imul, 1) := by decide +kernel
theorem dL_builds_84 : decode cL_builds 84 = .ok (.iaload, 1) := by decide +kernel
theorem dL_builds_85 : decode cL_builds 85 = .ok (.iload 7, 2) := by decide +kernel
theorem dL_builds_87 : decode cL_builds 87 = .ok (.if_icmp .ne 5, 3) := by decide +kernel
theorem dL_builds_90 : decode cL_builds 90 = .ok (.iconst 1, 1) := by decide +kernel
theorem dL_builds_91 : decode cL_builds 91 = .ok (.ireturn, 1) := by decide +kernel
theorem dL_builds_92 : decode cL_builds 92 = .ok (.iinc 11 1, 3) := by decide +kernel
theorem dL_builds_95 : decode cL_builds 95 = .ok (.goto (-25), 3) := by decide +kernel
theorem dL_builds_98 : decode cL_builds 98 = .ok (.iload 10, 2) := by decide +kernel
theorem dL_builds_100 : decode cL_builds 100 = .ok (.ifCond .le 60, 3) := by decide +kernel
theorem dL_builds_103 : decode cL_builds 103 = .ok (.aload 4, 2) := by decide +kernel
theorem dL_builds_105 : decode cL_builds 105 = .ok (.iconst 4, 1) := by decide +kernel
theorem dL_builds_106 : decode cL_builds 106 = .ok (.iload 10, 2) := by decide +kernel
theorem dL_builds_108 : decode cL_builds 108 = .ok (.imul, 1) := by decide +kernel
theorem dL_builds_109 : decode cL_builds 109 = .ok (.iconst 4, 1) := by decide +kernel
theorem dL_builds_110 : decode cL_builds 110 = .ok (.isub, 1) := by decide +kernel
theorem dL_builds_111 : decode cL_builds 111 = .ok (.iaload, 1) := by decide +kernel
theorem dL_builds_112 : decode cL_builds 112 = .ok (.iload 7, 2) := by decide +kernel
theorem dL_builds_114 : decode cL_builds 114 = .ok (.if_icmp .le 46, 3) := by decide +kernel
theorem dL_builds_117 : decode cL_builds 117 = .ok (.iconst 0, 1) := by decide +kernel
theorem dL_builds_118 : decode cL_builds 118 = .ok (.istore 11, 2) := by decide +kernel
theorem dL_builds_120 : decode cL_builds 120 = .ok (.iload 11, 2) := by decide +kernel
theorem dL_builds_122 : decode cL_builds 122 = .ok (.iconst 4, 1) := by decide +kernel
theorem dL_builds_123 : decode cL_builds 123 = .ok (.if_icmp .ge 31, 3) := by decide +kernel
theorem dL_builds_126 : decode cL_builds 126 = .ok (.aload 4, 2) := by decide +kernel
theorem dL_builds_128 : decode cL_builds 128 = .ok (.iconst 4, 1) := by decide +kernel
theorem dL_builds_129 : decode cL_builds 129 = .ok (.iload 10, 2) := by decide +kernel
theorem dL_builds_131 : decode cL_builds 131 = .ok (.imul, 1) := by decide +kernel
theorem dL_builds_132 : decode cL_builds 132 = .ok (.iload 11, 2) := by decide +kernel
theorem dL_builds_134 : decode cL_builds 134 = .ok (.iadd, 1) := by decide +kernel
theorem dL_builds_135 : decode cL_builds 135 = .ok (.aload 4, 2) := by decide +kernel
theorem dL_builds_137 : decode cL_builds 137 = .ok (.iconst 4, 1) := by decide +kernel
theorem dL_builds_138 : decode cL_builds 138 = .ok (.iload 10, 2) := by decide +kernel
theorem dL_builds_140 : decode cL_builds 140 = .ok (.imul, 1) := by decide +kernel
theorem dL_builds_141 : decode cL_builds 141 = .ok (.iload 11, 2) := by decide +kernel
theorem dL_builds_143 : decode cL_builds 143 = .ok (.iadd, 1) := by decide +kernel
theorem dL_builds_144 : decode cL_builds 144 = .ok (.iconst 4, 1) := by decide +kernel
theorem dL_builds_145 : decode cL_builds 145 = .ok (.isub, 1) := by decide +kernel
theorem dL_builds_146 : decode cL_builds 146 = .ok (.iaload, 1) := by decide +kernel
theorem dL_builds_147 : decode cL_builds 147 = .ok (.iastore, 1) := by decide +kernel
theorem dL_builds_148 : decode cL_builds 148 = .ok (.iinc 11 1, 3) := by decide +kernel
theorem dL_builds_151 : decode cL_builds 151 = .ok (.goto (-31), 3) := by decide +kernel
theorem dL_builds_154 : decode cL_builds 154 = .ok (.iinc 10 (-1), 3) := by decide +kernel
theorem dL_builds_157 : decode cL_builds 157 = .ok (.goto (-59), 3) := by decide +kernel
theorem dL_builds_160 : decode cL_builds 160 = .ok (.aload_n 3, 1) := by decide +kernel
theorem dL_builds_161 : decode cL_builds 161 = .ok (.iconst 0, 1) := by decide +kernel
theorem dL_builds_162 : decode cL_builds 162 = .ok (.dup2, 1) := by decide +kernel
theorem dL_builds_163 : decode cL_builds 163 = .ok (.iaload, 1) := by decide +kernel
theorem dL_builds_164 : decode cL_builds 164 = .ok (.iconst 1, 1) := by decide +kernel
theorem dL_builds_165 : decode cL_builds 165 = .ok (.iadd, 1) := by decide +kernel
theorem dL_builds_166 : decode cL_builds 166 = .ok (.iastore, 1) := by decide +kernel
theorem dL_builds_167 : decode cL_builds 167 = .ok (.aload 4, 2) := by decide +kernel
theorem dL_builds_169 : decode cL_builds 169 = .ok (.iconst 4, 1) := by decide +kernel
theorem dL_builds_170 : decode cL_builds 170 = .ok (.iload 10, 2) := by decide +kernel
theorem dL_builds_172 : decode cL_builds 172 = .ok (.imul, 1) := by decide +kernel
theorem dL_builds_173 : decode cL_builds 173 = .ok (.iload 7, 2) := by decide +kernel
theorem dL_builds_175 : decode cL_builds 175 = .ok (.iastore, 1) := by decide +kernel
theorem dL_builds_176 : decode cL_builds 176 = .ok (.aload 4, 2) := by decide +kernel
theorem dL_builds_178 : decode cL_builds 178 = .ok (.iconst 4, 1) := by decide +kernel
theorem dL_builds_179 : decode cL_builds 179 = .ok (.iload 10, 2) := by decide +kernel
theorem dL_builds_181 : decode cL_builds 181 = .ok (.imul, 1) := by decide +kernel
theorem dL_builds_182 : decode cL_builds 182 = .ok (.iconst 1, 1) := by decide +kernel
theorem dL_builds_183 : decode cL_builds 183 = .ok (.iadd, 1) := by decide +kernel
theorem dL_builds_184 : decode cL_builds 184 = .ok (.iload 8, 2) := by decide +kernel
theorem dL_builds_186 : decode cL_builds 186 = .ok (.iastore, 1) := by decide +kernel
theorem dL_builds_187 : decode cL_builds 187 = .ok (.aload 4, 2) := by decide +kernel
theorem dL_builds_189 : decode cL_builds 189 = .ok (.iconst 4, 1) := by decide +kernel
theorem dL_builds_190 : decode cL_builds 190 = .ok (.iload 10, 2) := by decide +kernel
theorem dL_builds_192 : decode cL_builds 192 = .ok (.imul, 1) := by decide +kernel
theorem dL_builds_193 : decode cL_builds 193 = .ok (.iconst 2, 1) := by decide +kernel
theorem dL_builds_194 : decode cL_builds 194 = .ok (.iadd, 1) := by decide +kernel
theorem dL_builds_195 : decode cL_builds 195 = .ok (.iload 9, 2) := by decide +kernel
theorem dL_builds_197 : decode cL_builds 197 = .ok (.iastore, 1) := by decide +kernel
theorem dL_builds_198 : decode cL_builds 198 = .ok (.aload 4, 2) := by decide +kernel
theorem dL_builds_200 : decode cL_builds 200 = .ok (.iconst 4, 1) := by decide +kernel
theorem dL_builds_201 : decode cL_builds 201 = .ok (.iload 10, 2) := by decide +kernel
theorem dL_builds_203 : decode cL_builds 203 = .ok (.imul, 1) := by decide +kernel
theorem dL_builds_204 : decode cL_builds 204 = .ok (.iconst 3, 1) := by decide +kernel
theorem dL_builds_205 : decode cL_builds 205 = .ok (.iadd, 1) := by decide +kernel
theorem dL_builds_206 : decode cL_builds 206 = .ok (.iconst 0, 1) := by decide +kernel
theorem dL_builds_207 : decode cL_builds 207 = .ok (.iastore, 1) := by decide +kernel
theorem dL_builds_208 : decode cL_builds 208 = .ok (.aload_n 3, 1) := by decide +kernel
theorem dL_builds_209 : decode cL_builds 209 = .ok (.iconst 2, 1) := by decide +kernel
theorem dL_builds_210 : decode cL_builds 210 = .ok (.iaload, 1) := by decide +kernel
theorem dL_builds_211 : decode cL_builds 211 = .ok (.bipush 6, 2) := by decide +kernel
theorem dL_builds_213 : decode cL_builds 213 = .ok (.if_icmp .ge 10, 3) := by decide +kernel
theorem dL_builds_216 : decode cL_builds 216 = .ok (.aload_n 3, 1) := by decide +kernel
theorem dL_builds_217 : decode cL_builds 217 = .ok (.iconst 2, 1) := by decide +kernel
theorem dL_builds_218 : decode cL_builds 218 = .ok (.dup2, 1) := by decide +kernel
theorem dL_builds_219 : decode cL_builds 219 = .ok (.iaload, 1) := by decide +kernel
theorem dL_builds_220 : decode cL_builds 220 = .ok (.iconst 1, 1) := by decide +kernel
theorem dL_builds_221 : decode cL_builds 221 = .ok (.iadd, 1) := by decide +kernel
theorem dL_builds_222 : decode cL_builds 222 = .ok (.iastore, 1) := by decide +kernel
theorem dL_builds_223 : decode cL_builds 223 = .ok (.aload_n 0, 1) := by decide +kernel
theorem dL_builds_224 : decode cL_builds 224 = .ok (.iload 7, 2) := by decide +kernel
theorem dL_builds_226 : decode cL_builds 226 = .ok (.iload 8, 2) := by decide +kernel
theorem dL_builds_228 : decode cL_builds 228 = .ok (.iload 9, 2) := by decide +kernel
theorem dL_builds_230 : decode cL_builds 230 = .ok (.invokevirtual 22, 3) := by decide +kernel
theorem dL_builds_233 : decode cL_builds 233 = .ok (.iload 10, 2) := by decide +kernel
theorem dL_builds_235 : decode cL_builds 235 = .ok (.if_icmp .ne 7, 3) := by decide +kernel
theorem dL_builds_238 : decode cL_builds 238 = .ok (.iconst 1, 1) := by decide +kernel
theorem dL_builds_239 : decode cL_builds 239 = .ok (.goto 4, 3) := by decide +kernel
theorem dL_builds_242 : decode cL_builds 242 = .ok (.iconst 0, 1) := by decide +kernel
theorem dL_builds_243 : decode cL_builds 243 = .ok (.ireturn, 1) := by decide +kernel
theorem dL_builds_244 : decode cL_builds 244 = .ok (.iload_n 2, 1) := by decide +kernel
theorem dL_builds_245 : decode cL_builds 245 = .ok (.aload_n 3, 1) := by decide +kernel
theorem dL_builds_246 : decode cL_builds 246 = .ok (.iconst 0, 1) := by decide +kernel
theorem dL_builds_247 : decode cL_builds 247 = .ok (.iaload, 1) := by decide +kernel
theorem dL_builds_248 : decode cL_builds 248 = .ok (.invokestatic 18, 3) := by decide +kernel
theorem dL_builds_251 : decode cL_builds 251 = .ok (.istore 7, 2) := by decide +kernel
theorem dL_builds_253 : decode cL_builds 253 = .ok (.iload 6, 2) := by decide +kernel
theorem dL_builds_255 : decode cL_builds 255 = .ok (.iconst 3, 1) := by decide +kernel
theorem dL_builds_256 : decode cL_builds 256 = .ok (.if_icmp .ne 81, 3) := by decide +kernel
theorem dL_builds_259 : decode cL_builds 259 = .ok (.aload_n 3, 1) := by decide +kernel
theorem dL_builds_260 : decode cL_builds 260 = .ok (.iconst 0, 1) := by decide +kernel
theorem dL_builds_261 : decode cL_builds 261 = .ok (.dup2, 1) := by decide +kernel
theorem dL_builds_262 : decode cL_builds 262 = .ok (.iaload, 1) := by decide +kernel
theorem dL_builds_263 : decode cL_builds 263 = .ok (.iconst 1, 1) := by decide +kernel
theorem dL_builds_264 : decode cL_builds 264 = .ok (.isub, 1) := by decide +kernel
theorem dL_builds_265 : decode cL_builds 265 = .ok (.iastore, 1) := by decide +kernel
theorem dL_builds_266 : decode cL_builds 266 = .ok (.iconst 4, 1) := by decide +kernel
theorem dL_builds_267 : decode cL_builds 267 = .ok (.iload 7, 2) := by decide +kernel
theorem dL_builds_269 : decode cL_builds 269 = .ok (.imul, 1) := by decide +kernel
theorem dL_builds_270 : decode cL_builds 270 = .ok (.istore 8, 2) := by decide +kernel
theorem dL_builds_272 : decode cL_builds 272 = .ok (.iload 8, 2) := by decide +kernel
theorem dL_builds_274 : decode cL_builds 274 = .ok (.iconst 4, 1) := by decide +kernel
theorem dL_builds_275 : decode cL_builds 275 = .ok (.aload_n 3, 1) := by decide +kernel
theorem dL_builds_276 : decode cL_builds 276 = .ok (.iconst 0, 1) := by decide +kernel
theorem dL_builds_277 : decode cL_builds 277 = .ok (.iaload, 1) := by decide +kernel
theorem dL_builds_278 : decode cL_builds 278 = .ok (.imul, 1) := by decide +kernel
theorem dL_builds_279 : decode cL_builds 279 = .ok (.if_icmp .ge 21, 3) := by decide +kernel
theorem dL_builds_282 : decode cL_builds 282 = .ok (.aload 4, 2) := by decide +kernel
theorem dL_builds_284 : decode cL_builds 284 = .ok (.iload 8, 2) := by decide +kernel
theorem dL_builds_286 : decode cL_builds 286 = .ok (.aload 4, 2) := by decide +kernel
theorem dL_builds_288 : decode cL_builds 288 = .ok (.iload 8, 2) := by decide +kernel
theorem dL_builds_290 : decode cL_builds 290 = .ok (.iconst 4, 1) := by decide +kernel
theorem dL_builds_291 : decode cL_builds 291 = .ok (.iadd, 1) := by decide +kernel
theorem dL_builds_292 : decode cL_builds 292 = .ok (.iaload, 1) := by decide +kernel
theorem dL_builds_293 : decode cL_builds 293 = .ok (.iastore, 1) := by decide +kernel
theorem dL_builds_294 : decode cL_builds 294 = .ok (.iinc 8 1, 3) := by decide +kernel
theorem dL_builds_297 : decode cL_builds 297 = .ok (.goto (-25), 3) := by decide +kernel
theorem dL_builds_300 : decode cL_builds 300 = .ok (.aload_n 3, 1) := by decide +kernel
theorem dL_builds_301 : decode cL_builds 301 = .ok (.iconst 2, 1) := by decide +kernel
theorem dL_builds_302 : decode cL_builds 302 = .ok (.iaload, 1) := by decide +kernel
theorem dL_builds_303 : decode cL_builds 303 = .ok (.bipush 6, 2) := by decide +kernel
theorem dL_builds_305 : decode cL_builds 305 = .ok (.if_icmp .ge 10, 3) := by decide +kernel
theorem dL_builds_308 : decode cL_builds 308 = .ok (.aload_n 3, 1) := by decide +kernel
theorem dL_builds_309 : decode cL_builds 309 = .ok (.iconst 2, 1) := by decide +kernel
theorem dL_builds_310 : decode cL_builds 310 = .ok (.dup2, 1) := by decide +kernel
theorem dL_builds_311 : decode cL_builds 311 = .ok (.iaload, 1) := by decide +kernel
theorem dL_builds_312 : decode cL_builds 312 = .ok (.iconst 1, 1) := by decide +kernel
theorem dL_builds_313 : decode cL_builds 313 = .ok (.iadd, 1) := by decide +kernel
theorem dL_builds_314 : decode cL_builds 314 = .ok (.iastore, 1) := by decide +kernel
theorem dL_builds_315 : decode cL_builds 315 = .ok (.aload_n 0, 1) := by decide +kernel
theorem dL_builds_316 : decode cL_builds 316 = .ok (.iload 7, 2) := by decide +kernel
theorem dL_builds_318 : decode cL_builds 318 = .ok (.invokevirtual 28, 3) := by decide +kernel
theorem dL_builds_321 : decode cL_builds 321 = .ok (.aload_n 3, 1) := by decide +kernel
theorem dL_builds_322 : decode cL_builds 322 = .ok (.aload 4, 2) := by decide +kernel
theorem dL_builds_324 : decode cL_builds 324 = .ok (.iconst 0, 1) := by decide +kernel
theorem dL_builds_325 : decode cL_builds 325 = .ok (.invokestatic 32, 3) := by decide +kernel
theorem dL_builds_328 : decode cL_builds 328 = .ok (.if_icmp .ne 7, 3) := by decide +kernel
theorem dL_builds_331 : decode cL_builds 331 = .ok (.iconst 1, 1) := by decide +kernel
theorem dL_builds_332 : decode cL_builds 332 = .ok (.goto 4, 3) := by decide +kernel
theorem dL_builds_335 : decode cL_builds 335 = .ok (.iconst 0, 1) := by decide +kernel
theorem dL_builds_336 : decode cL_builds 336 = .ok (.ireturn, 1) := by decide +kernel
theorem dL_builds_337 : decode cL_builds 337 = .ok (.iload 6, 2) := by decide +kernel
theorem dL_builds_339 : decode cL_builds 339 = .ok (.bipush 6, 2) := by decide +kernel
theorem dL_builds_341 : decode cL_builds 341 = .ok (.if_icmp .ge 209, 3) := by decide +kernel
theorem dL_builds_344 : decode cL_builds 344 = .ok (.aload_n 3, 1) := by decide +kernel
theorem dL_builds_345 : decode cL_builds 345 = .ok (.iconst 1, 1) := by decide +kernel
theorem dL_builds_346 : decode cL_builds 346 = .ok (.iaload, 1) := by decide +kernel
theorem dL_builds_347 : decode cL_builds 347 = .ok (.iconst 4, 1) := by decide +kernel
theorem dL_builds_348 : decode cL_builds 348 = .ok (.if_icmp .ne 84, 3) := by decide +kernel
theorem dL_builds_351 : decode cL_builds 351 = .ok (.iload_n 2, 1) := by decide +kernel
theorem dL_builds_352 : decode cL_builds 352 = .ok (.iconst 4, 1) := by decide +kernel
theorem dL_builds_353 : decode cL_builds 353 = .ok (.invokestatic 18, 3) := by decide +kernel
theorem dL_builds_356 : decode cL_builds 356 = .ok (.istore 8, 2) := by decide +kernel
theorem dL_builds_358 : decode cL_builds 358 = .ok (.aload_n 3, 1) := by decide +kernel
theorem dL_builds_359 : decode cL_builds 359 = .ok (.iconst 1, 1) := by decide +kernel
theorem dL_builds_360 : decode cL_builds 360 = .ok (.dup2, 1) := by decide +kernel
theorem dL_builds_361 : decode cL_builds 361 = .ok (.iaload, 1) := by decide +kernel
theorem dL_builds_362 : decode cL_builds 362 = .ok (.iconst 1, 1) := by decide +kernel
theorem dL_builds_363 : decode cL_builds 363 = .ok (.isub, 1) := by decide +kernel
theorem dL_builds_364 : decode cL_builds 364 = .ok (.iastore, 1) := by decide +kernel
theorem dL_builds_365 : decode cL_builds 365 = .ok (.iconst 3, 1) := by decide +kernel
theorem dL_builds_366 : decode cL_builds 366 = .ok (.iload 8, 2) := by decide +kernel
theorem dL_builds_368 : decode cL_builds 368 = .ok (.imul, 1) := by decide +kernel
theorem dL_builds_369 : decode cL_builds 369 = .ok (.istore 9, 2) := by decide +kernel
theorem dL_builds_371 : decode cL_builds 371 = .ok (.iload 9, 2) := by decide +kernel
theorem dL_builds_373 : decode cL_builds 373 = .ok (.iconst 3, 1) := by decide +kernel
theorem dL_builds_374 : decode cL_builds 374 = .ok (.aload_n 3, 1) := by decide +kernel
theorem dL_builds_375 : decode cL_builds 375 = .ok (.iconst 1, 1) := by decide +kernel
theorem dL_builds_376 : decode cL_builds 376 = .ok (.iaload, 1) := by decide +kernel
theorem dL_builds_377 : decode cL_builds 377 = .ok (.imul, 1) := by decide +kernel
theorem dL_builds_378 : decode cL_builds 378 = .ok (.if_icmp .ge 21, 3) := by decide +kernel
theorem dL_builds_381 : decode cL_builds 381 = .ok (.aload 5, 2) := by decide +kernel
theorem dL_builds_383 : decode cL_builds 383 = .ok (.iload 9, 2) := by decide +kernel
theorem dL_builds_385 : decode cL_builds 385 = .ok (.aload 5, 2) := by decide +kernel
theorem dL_builds_387 : decode cL_builds 387 = .ok (.iload 9, 2) := by decide +kernel
theorem dL_builds_389 : decode cL_builds 389 = .ok (.iconst 3, 1) := by decide +kernel
theorem dL_builds_390 : decode cL_builds 390 = .ok (.iadd, 1) := by decide +kernel
theorem dL_builds_391 : decode cL_builds 391 = .ok (.iaload, 1) := by decide +kernel
theorem dL_builds_392 : decode cL_builds 392 = .ok (.iastore, 1) := by decide +kernel
theorem dL_builds_393 : decode cL_builds 393 = .ok (.iinc 9 1, 3) := by decide +kernel
theorem dL_builds_396 : decode cL_builds 396 = .ok (.goto (-25), 3) := by decide +kernel
theorem dL_builds_399 : decode cL_builds 399 = .ok (.aload_n 3, 1) := by decide +kernel
theorem dL_builds_400 : decode cL_builds 400 = .ok (.iconst 2, 1) := by decide +kernel
theorem dL_builds_401 : decode cL_builds 401 = .ok (.iaload, 1) := by decide +kernel
theorem dL_builds_402 : decode cL_builds 402 = .ok (.bipush 6, 2) := by decide +kernel
theorem dL_builds_404 : decode cL_builds 404 = .ok (.if_icmp .ge 10, 3) := by decide +kernel
theorem dL_builds_407 : decode cL_builds 407 = .ok (.aload_n 3, 1) := by decide +kernel
theorem dL_builds_408 : decode cL_builds 408 = .ok (.iconst 2, 1) := by decide +kernel
theorem dL_builds_409 : decode cL_builds 409 = .ok (.dup2, 1) := by decide +kernel
theorem dL_builds_410 : decode cL_builds 410 = .ok (.iaload, 1) := by decide +kernel
theorem dL_builds_411 : decode cL_builds 411 = .ok (.iconst 1, 1) := by decide +kernel
theorem dL_builds_412 : decode cL_builds 412 = .ok (.iadd, 1) := by decide +kernel
theorem dL_builds_413 : decode cL_builds 413 = .ok (.iastore, 1) := by decide +kernel
theorem dL_builds_414 : decode cL_builds 414 = .ok (.aload_n 0, 1) := by decide +kernel
theorem dL_builds_415 : decode cL_builds 415 = .ok (.iload 8, 2) := by decide +kernel
theorem dL_builds_417 : decode cL_builds 417 = .ok (.invokevirtual 36, 3) := by decide +kernel
theorem dL_builds_420 : decode cL_builds 420 = .ok (.aload_n 3, 1) := by decide +kernel
theorem dL_builds_421 : decode cL_builds 421 = .ok (.iconst 1, 1) := by decide +kernel
theorem dL_builds_422 : decode cL_builds 422 = .ok (.iaload, 1) := by decide +kernel
theorem dL_builds_423 : decode cL_builds 423 = .ok (.if_icmp .ne 7, 3) := by decide +kernel
theorem dL_builds_426 : decode cL_builds 426 = .ok (.iconst 1, 1) := by decide +kernel
theorem dL_builds_427 : decode cL_builds 427 = .ok (.goto 4, 3) := by decide +kernel
theorem dL_builds_430 : decode cL_builds 430 = .ok (.iconst 0, 1) := by decide +kernel
theorem dL_builds_431 : decode cL_builds 431 = .ok (.ireturn, 1) := by decide +kernel
theorem dL_builds_432 : decode cL_builds 432 = .ok (.aload_n 3, 1) := by decide +kernel
theorem dL_builds_433 : decode cL_builds 433 = .ok (.iconst 1, 1) := by decide +kernel
theorem dL_builds_434 : decode cL_builds 434 = .ok (.dup2, 1) := by decide +kernel
theorem dL_builds_435 : decode cL_builds 435 = .ok (.iaload, 1) := by decide +kernel
theorem dL_builds_436 : decode cL_builds 436 = .ok (.dup_x2, 1) := by decide +kernel
theorem dL_builds_437 : decode cL_builds 437 = .ok (.iconst 1, 1) := by decide +kernel
theorem dL_builds_438 : decode cL_builds 438 = .ok (.iadd, 1) := by decide +kernel
theorem dL_builds_439 : decode cL_builds 439 = .ok (.iastore, 1) := by decide +kernel
theorem dL_builds_440 : decode cL_builds 440 = .ok (.istore 8, 2) := by decide +kernel
theorem dL_builds_442 : decode cL_builds 442 = .ok (.aload 5, 2) := by decide +kernel
theorem dL_builds_444 : decode cL_builds 444 = .ok (.iconst 3, 1) := by decide +kernel
theorem dL_builds_445 : decode cL_builds 445 = .ok (.iload 8, 2) := by decide +kernel
theorem dL_builds_447 : decode cL_builds 447 = .ok (.imul, 1) := by decide +kernel
theorem dL_builds_448 : decode cL_builds 448 = .ok (.iconst 1, 1) := by decide +kernel
theorem dL_builds_449 : decode cL_builds 449 = .ok (.iload_n 2, 1) := by decide +kernel
theorem dL_builds_450 : decode cL_builds 450 = .ok (.bipush 60, 2) := by decide +kernel
theorem dL_builds_452 : decode cL_builds 452 = .ok (.invokestatic 18, 3) := by decide +kernel
theorem dL_builds_455 : decode cL_builds 455 = .ok (.iadd, 1) := by decide +kernel
theorem dL_builds_456 : decode cL_builds 456 = .ok (.iastore, 1) := by decide +kernel
theorem dL_builds_457 : decode cL_builds 457 = .ok (.aload 5, 2) := by decide +kernel
theorem dL_builds_459 : decode cL_builds 459 = .ok (.iconst 3, 1) := by decide +kernel
theorem dL_builds_460 : decode cL_builds 460 = .ok (.iload 8, 2) := by decide +kernel
theorem dL_builds_462 : decode cL_builds 462 = .ok (.imul, 1) := by decide +kernel
theorem dL_builds_463 : decode cL_builds 463 = .ok (.iconst 1, 1) := by decide +kernel
theorem dL_builds_464 : decode cL_builds 464 = .ok (.iadd, 1) := by decide +kernel
theorem dL_builds_465 : decode cL_builds 465 = .ok (.iload_n 2, 1) := by decide +kernel
theorem dL_builds_466 : decode cL_builds 466 = .ok (.bipush 6, 2) := by decide +kernel
theorem dL_builds_468 : decode cL_builds 468 = .ok (.ishr, 1) := by decide +kernel
theorem dL_builds_469 : decode cL_builds 469 = .ok (.bipush 13, 2) := by decide +kernel
theorem dL_builds_471 : decode cL_builds 471 = .ok (.invokestatic 18, 3) := by decide +kernel
theorem dL_builds_474 : decode cL_builds 474 = .ok (.bipush 6, 2) := by decide +kernel
theorem dL_builds_476 : decode cL_builds 476 = .ok (.isub, 1) := by decide +kernel
theorem dL_builds_477 : decode cL_builds 477 = .ok (.iastore, 1) := by decide +kernel
theorem dL_builds_478 : decode cL_builds 478 = .ok (.aload 5, 2) := by decide +kernel
theorem dL_builds_480 : decode cL_builds 480 = .ok (.iconst 3, 1) := by decide +kernel
theorem dL_builds_481 : decode cL_builds 481 = .ok (.iload 8, 2) := by decide +kernel
theorem dL_builds_483 : decode cL_builds 483 = .ok (.imul, 1) := by decide +kernel
theorem dL_builds_484 : decode cL_builds 484 = .ok (.iconst 2, 1) := by decide +kernel
theorem dL_builds_485 : decode cL_builds 485 = .ok (.iadd, 1) := by decide +kernel
theorem dL_builds_486 : decode cL_builds 486 = .ok (.iload_n 2, 1) := by decide +kernel
theorem dL_builds_487 : decode cL_builds 487 = .ok (.bipush 10, 2) := by decide +kernel
theorem dL_builds_489 : decode cL_builds 489 = .ok (.ishr, 1) := by decide +kernel
theorem dL_builds_490 : decode cL_builds 490 = .ok (.iconst 4, 1) := by decide +kernel
theorem dL_builds_491 : decode cL_builds 491 = .ok (.invokestatic 18, 3) := by decide +kernel
theorem dL_builds_494 : decode cL_builds 494 = .ok (.iastore, 1) := by decide +kernel
theorem dL_builds_495 : decode cL_builds 495 = .ok (.aload_n 3, 1) := by decide +kernel
theorem dL_builds_496 : decode cL_builds 496 = .ok (.iconst 2, 1) := by decide +kernel
theorem dL_builds_497 : decode cL_builds 497 = .ok (.iaload, 1) := by decide +kernel
theorem dL_builds_498 : decode cL_builds 498 = .ok (.bipush 6, 2) := by decide +kernel
theorem dL_builds_500 : decode cL_builds 500 = .ok (.if_icmp .ge 10, 3) := by decide +kernel
theorem dL_builds_503 : decode cL_builds 503 = .ok (.aload_n 3, 1) := by decide +kernel
theorem dL_builds_504 : decode cL_builds 504 = .ok (.iconst 2, 1) := by decide +kernel
theorem dL_builds_505 : decode cL_builds 505 = .ok (.dup2, 1) := by decide +kernel
theorem dL_builds_506 : decode cL_builds 506 = .ok (.iaload, 1) := by decide +kernel
theorem dL_builds_507 : decode cL_builds 507 = .ok (.iconst 1, 1) := by decide +kernel
theorem dL_builds_508 : decode cL_builds 508 = .ok (.iadd, 1) := by decide +kernel
theorem dL_builds_509 : decode cL_builds 509 = .ok (.iastore, 1) := by decide +kernel
theorem dL_builds_510 : decode cL_builds 510 = .ok (.aload_n 0, 1) := by decide +kernel
theorem dL_builds_511 : decode cL_builds 511 = .ok (.aload 5, 2) := by decide +kernel
theorem dL_builds_513 : decode cL_builds 513 = .ok (.iconst 3, 1) := by decide +kernel
theorem dL_builds_514 : decode cL_builds 514 = .ok (.iload 8, 2) := by decide +kernel
theorem dL_builds_516 : decode cL_builds 516 = .ok (.imul, 1) := by decide +kernel
theorem dL_builds_517 : decode cL_builds 517 = .ok (.iaload, 1) := by decide +kernel
theorem dL_builds_518 : decode cL_builds 518 = .ok (.aload 5, 2) := by decide +kernel
theorem dL_builds_520 : decode cL_builds 520 = .ok (.iconst 3, 1) := by decide +kernel
theorem dL_builds_521 : decode cL_builds 521 = .ok (.iload 8, 2) := by decide +kernel
theorem dL_builds_523 : decode cL_builds 523 = .ok (.imul, 1) := by decide +kernel
theorem dL_builds_524 : decode cL_builds 524 = .ok (.iconst 1, 1) := by decide +kernel
theorem dL_builds_525 : decode cL_builds 525 = .ok (.iadd, 1) := by decide +kernel
theorem dL_builds_526 : decode cL_builds 526 = .ok (.iaload, 1) := by decide +kernel
theorem dL_builds_527 : decode cL_builds 527 = .ok (.aload 5, 2) := by decide +kernel
theorem dL_builds_529 : decode cL_builds 529 = .ok (.iconst 3, 1) := by decide +kernel
theorem dL_builds_530 : decode cL_builds 530 = .ok (.iload 8, 2) := by decide +kernel
theorem dL_builds_532 : decode cL_builds 532 = .ok (.imul, 1) := by decide +kernel
theorem dL_builds_533 : decode cL_builds 533 = .ok (.iconst 2, 1) := by decide +kernel
theorem dL_builds_534 : decode cL_builds 534 = .ok (.iadd, 1) := by decide +kernel
theorem dL_builds_535 : decode cL_builds 535 = .ok (.iaload, 1) := by decide +kernel
theorem dL_builds_536 : decode cL_builds 536 = .ok (.invokevirtual 39, 3) := by decide +kernel
theorem dL_builds_539 : decode cL_builds 539 = .ok (.iload 8, 2) := by decide +kernel
theorem dL_builds_541 : decode cL_builds 541 = .ok (.if_icmp .ne 7, 3) := by decide +kernel
theorem dL_builds_544 : decode cL_builds 544 = .ok (.iconst 1, 1) := by decide +kernel
theorem dL_builds_545 : decode cL_builds 545 = .ok (.goto 4, 3) := by decide +kernel
theorem dL_builds_548 : decode cL_builds 548 = .ok (.iconst 0, 1) := by decide +kernel
theorem dL_builds_549 : decode cL_builds 549 = .ok (.ireturn, 1) := by decide +kernel
theorem dL_builds_550 : decode cL_builds 550 = .ok (.aload_n 3, 1) := by decide +kernel
theorem dL_builds_551 : decode cL_builds 551 = .ok (.iconst 2, 1) := by decide +kernel
theorem dL_builds_552 : decode cL_builds 552 = .ok (.iaload, 1) := by decide +kernel
theorem dL_builds_553 : decode cL_builds 553 = .ok (.bipush 6, 2) := by decide +kernel
theorem dL_builds_555 : decode cL_builds 555 = .ok (.if_icmp .ge 10, 3) := by decide +kernel
theorem dL_builds_558 : decode cL_builds 558 = .ok (.aload_n 3, 1) := by decide +kernel
theorem dL_builds_559 : decode cL_builds 559 = .ok (.iconst 2, 1) := by decide +kernel
theorem dL_builds_560 : decode cL_builds 560 = .ok (.dup2, 1) := by decide +kernel
theorem dL_builds_561 : decode cL_builds 561 = .ok (.iaload, 1) := by decide +kernel
theorem dL_builds_562 : decode cL_builds 562 = .ok (.iconst 1, 1) := by decide +kernel
theorem dL_builds_563 : decode cL_builds 563 = .ok (.iadd, 1) := by decide +kernel
theorem dL_builds_564 : decode cL_builds 564 = .ok (.iastore, 1) := by decide +kernel
theorem dL_builds_565 : decode cL_builds 565 = .ok (.iload 6, 2) := by decide +kernel
theorem dL_builds_567 : decode cL_builds 567 = .ok (.bipush 6, 2) := by decide +kernel
theorem dL_builds_569 : decode cL_builds 569 = .ok (.if_icmp .ne 58, 3) := by decide +kernel
theorem dL_builds_572 : decode cL_builds 572 = .ok (.aload 4, 2) := by decide +kernel
theorem dL_builds_574 : decode cL_builds 574 = .ok (.iconst 4, 1) := by decide +kernel
theorem dL_builds_575 : decode cL_builds 575 = .ok (.iload 7, 2) := by decide +kernel
theorem dL_builds_577 : decode cL_builds 577 = .ok (.imul, 1) := by decide +kernel
theorem dL_builds_578 : decode cL_builds 578 = .ok (.iconst 1, 1) := by decide +kernel
theorem dL_builds_579 : decode cL_builds 579 = .ok (.iadd, 1) := by decide +kernel
theorem dL_builds_580 : decode cL_builds 580 = .ok (.iaload, 1) := by decide +kernel
theorem dL_builds_581 : decode cL_builds 581 = .ok (.istore 8, 2) := by decide +kernel
theorem dL_builds_583 : decode cL_builds 583 = .ok (.aload 4, 2) := by decide +kernel
theorem dL_builds_585 : decode cL_builds 585 = .ok (.iconst 4, 1) := by decide +kernel
theorem dL_builds_586 : decode cL_builds 586 = .ok (.iload 7, 2) := by decide +kernel
theorem dL_builds_588 : decode cL_builds 588 = .ok (.imul, 1) := by decide +kernel
theorem dL_builds_589 : decode cL_builds 589 = .ok (.iconst 1, 1) := by decide +kernel
theorem dL_builds_590 : decode cL_builds 590 = .ok (.iadd, 1) := by decide +kernel
theorem dL_builds_591 : decode cL_builds 591 = .ok (.iload_n 2, 1) := by decide +kernel
theorem dL_builds_592 : decode cL_builds 592 = .ok (.iconst 4, 1) := by decide +kernel
theorem dL_builds_593 : decode cL_builds 593 = .ok (.ishr, 1) := by decide +kernel
theorem dL_builds_594 : decode cL_builds 594 = .ok (.sipush 200, 3) := by decide +kernel
theorem dL_builds_597 : decode cL_builds 597 = .ok (.invokestatic 18, 3) := by decide +kernel
theorem dL_builds_600 : decode cL_builds 600 = .ok (.iastore, 1) := by decide +kernel
theorem dL_builds_601 : decode cL_builds 601 = .ok (.aload_n 0, 1) := by decide +kernel
theorem dL_builds_602 : decode cL_builds 602 = .ok (.iload 7, 2) := by decide +kernel
theorem dL_builds_604 : decode cL_builds 604 = .ok (.aload 4, 2) := by decide +kernel
theorem dL_builds_606 : decode cL_builds 606 = .ok (.iconst 4, 1) := by decide +kernel
theorem dL_builds_607 : decode cL_builds 607 = .ok (.iload 7, 2) := by decide +kernel
theorem dL_builds_609 : decode cL_builds 609 = .ok (.imul, 1) := by decide +kernel
theorem dL_builds_610 : decode cL_builds 610 = .ok (.iconst 1, 1) := by decide +kernel
theorem dL_builds_611 : decode cL_builds 611 = .ok (.iadd, 1) := by decide +kernel
theorem dL_builds_612 : decode cL_builds 612 = .ok (.iaload, 1) := by decide +kernel
theorem dL_builds_613 : decode cL_builds 613 = .ok (.invokevirtual 42, 3) := by decide +kernel
theorem dL_builds_616 : decode cL_builds 616 = .ok (.iload 8, 2) := by decide +kernel
theorem dL_builds_618 : decode cL_builds 618 = .ok (.if_icmp .ne 7, 3) := by decide +kernel
theorem dL_builds_621 : decode cL_builds 621 = .ok (.iconst 1, 1) := by decide +kernel
theorem dL_builds_622 : decode cL_builds 622 = .ok (.goto 4, 3) := by decide +kernel
theorem dL_builds_625 : decode cL_builds 625 = .ok (.iconst 0, 1) := by decide +kernel
theorem dL_builds_626 : decode cL_builds 626 = .ok (.ireturn, 1) := by decide +kernel
theorem dL_builds_627 : decode cL_builds 627 = .ok (.iload_n 2, 1) := by decide +kernel
theorem dL_builds_628 : decode cL_builds 628 = .ok (.iconst 3, 1) := by decide +kernel
theorem dL_builds_629 : decode cL_builds 629 = .ok (.invokestatic 18, 3) := by decide +kernel
theorem dL_builds_632 : decode cL_builds 632 = .ok (.istore 8, 2) := by decide +kernel
theorem dL_builds_634 : decode cL_builds 634 = .ok (.aload_n 3, 1) := by decide +kernel
theorem dL_builds_635 : decode cL_builds 635 = .ok (.iconst 3, 1) := by decide +kernel
theorem dL_builds_636 : decode cL_builds 636 = .ok (.iload 8, 2) := by decide +kernel
theorem dL_builds_638 : decode cL_builds 638 = .ok (.iadd, 1) := by decide +kernel
theorem dL_builds_639 : decode cL_builds 639 = .ok (.iaload, 1) := by decide +kernel
theorem dL_builds_640 : decode cL_builds 640 = .ok (.istore 9, 2) := by decide +kernel
theorem dL_builds_642 : decode cL_builds 642 = .ok (.aload_n 3, 1) := by decide +kernel
theorem dL_builds_643 : decode cL_builds 643 = .ok (.iconst 3, 1) := by decide +kernel
theorem dL_builds_644 : decode cL_builds 644 = .ok (.iload 8, 2) := by decide +kernel
theorem dL_builds_646 : decode cL_builds 646 = .ok (.iadd, 1) := by decide +kernel
theorem dL_builds_647 : decode cL_builds 647 = .ok (.iload 8, 2) := by decide +kernel
theorem dL_builds_649 : decode cL_builds 649 = .ok (.ifCond .ne 15, 3) := by decide +kernel
theorem dL_builds_652 : decode cL_builds 652 = .ok (.iload_n 2, 1) := by decide +kernel
theorem dL_builds_653 : decode cL_builds 653 = .ok (.iconst 2, 1) := by decide +kernel
theorem dL_builds_654 : decode cL_builds 654 = .ok (.ishr, 1) := by decide +kernel
theorem dL_builds_655 : decode cL_builds 655 = .ok (.sipush 250, 3) := by decide +kernel
theorem dL_builds_658 : decode cL_builds 658 = .ok (.invokestatic 18, 3) := by decide +kernel
theorem dL_builds_661 : decode cL_builds 661 = .ok (.goto 31, 3) := by decide +kernel
theorem dL_builds_664 : decode cL_builds 664 = .ok (.iload 8, 2) := by decide +kernel
theorem dL_builds_666 : decode cL_builds 666 = .ok (.iconst 1, 1) := by decide +kernel
theorem dL_builds_667 : decode cL_builds 667 = .ok (.if_icmp .ne 17, 3) := by decide +kernel
theorem dL_builds_670 : decode cL_builds 670 = .ok (.iconst 1, 1) := by decide +kernel
theorem dL_builds_671 : decode cL_builds 671 = .ok (.iload_n 2, 1) := by decide +kernel
theorem dL_builds_672 : decode cL_builds 672 = .ok (.iconst 2, 1) := by decide +kernel
theorem dL_builds_673 : decode cL_builds 673 = .ok (.ishr, 1) := by decide +kernel
theorem dL_builds_674 : decode cL_builds 674 = .ok (.sipush 150, 3) := by decide +kernel
theorem dL_builds_677 : decode cL_builds 677 = .ok (.invokestatic 18, 3) := by decide +kernel
theorem dL_builds_680 : decode cL_builds 680 = .ok (.iadd, 1) := by decide +kernel
theorem dL_builds_681 : decode cL_builds 681 = .ok (.goto 11, 3) := by decide +kernel
theorem dL_builds_684 : decode cL_builds 684 = .ok (.iload_n 2, 1) := by decide +kernel
theorem dL_builds_685 : decode cL_builds 685 = .ok (.iconst 2, 1) := by decide +kernel
theorem dL_builds_686 : decode cL_builds 686 = .ok (.ishr, 1) := by decide +kernel
theorem dL_builds_687 : decode cL_builds 687 = .ok (.bipush 40, 2) := by decide +kernel
theorem dL_builds_689 : decode cL_builds 689 = .ok (.invokestatic 18, 3) := by decide +kernel
theorem dL_builds_692 : decode cL_builds 692 = .ok (.iastore, 1) := by decide +kernel
theorem dL_builds_693 : decode cL_builds 693 = .ok (.aload_n 0, 1) := by decide +kernel
theorem dL_builds_694 : decode cL_builds 694 = .ok (.iload 8, 2) := by decide +kernel
theorem dL_builds_696 : decode cL_builds 696 = .ok (.aload_n 3, 1) := by decide +kernel
theorem dL_builds_697 : decode cL_builds 697 = .ok (.iconst 3, 1) := by decide +kernel
theorem dL_builds_698 : decode cL_builds 698 = .ok (.iload 8, 2) := by decide +kernel
theorem dL_builds_700 : decode cL_builds 700 = .ok (.iadd, 1) := by decide +kernel
theorem dL_builds_701 : decode cL_builds 701 = .ok (.iaload, 1) := by decide +kernel
theorem dL_builds_702 : decode cL_builds 702 = .ok (.invokevirtual 45, 3) := by decide +kernel
theorem dL_builds_705 : decode cL_builds 705 = .ok (.iload 9, 2) := by decide +kernel
theorem dL_builds_707 : decode cL_builds 707 = .ok (.if_icmp .ne 7, 3) := by decide +kernel
theorem dL_builds_710 : decode cL_builds 710 = .ok (.iconst 1, 1) := by decide +kernel
theorem dL_builds_711 : decode cL_builds 711 = .ok (.goto 4, 3) := by decide +kernel
theorem dL_builds_714 : decode cL_builds 714 = .ok (.iconst 0, 1) := by decide +kernel
theorem dL_builds_715 : decode cL_builds 715 = .ok (.ireturn, 1) := by decide +kernel
set_option maxRecDepth 20000 in
theorem ggL_sits_L_at : GoodIn wsL_sits wsL_at := goodIn_r _ [4] (by decide +kernel) (by decide +kernel)
set_option maxRecDepth 20000 in
theorem gL_sits_L_at : GoodIn wsL_sits (va_wsS RL 18 yL_at wsL_at) := goodIn_app (goodIn_of _ (by decide +kernel)) ggL_sits_L_at
set_option maxRecDepth 20000 in
theorem ggL_sits_X4_leave : GoodIn wsL_sits wsX4_leave := goodIn_ca (goodIn_ca (goodIn_r _ [9, 10, 11, 12, 13, 14, 15, 8, 16, 17, 18, 19, 20, 21, 22, 23, 24, 25, 26, 27, 28, 29, 30, 31, 32, 33, 34, 35, 36, 37, 38, 39, 40, 41, 42, 43, 44, 45, 46, 47, 48, 49, 50, 51, 52, 53, 54, 55, 56, 57, 58, 59, 60, 61, 62, 63, 64, 65, 66, 67, 68, 69, 70, 71, 72, 73, 74, 75, 76, 77, 78, 79, 80, 81, 82, 83, 84, 85, 86, 87, 88, 89, 90, 91, 92, 244, 245, 246, 247, 248, 249, 250, 251, 252, 253, 254, 255, 256, 257, 258, 259, 260, 261, 262, 263, 264, 265] (by decide +kernel) (by decide +kernel)) (goodIn_sub (fun _ h => List.mem_cons_of_mem _ (List.mem_append_left _ (List.mem_append_left _ (List.mem_append_right _ h)))) (by decide +kernel))) (goodIn_sub (fun _ h => List.mem_cons_of_mem _ (List.mem_append_left _ (List.mem_append_right _ h))) (by decide +kernel))
set_option maxRecDepth 20000 in
theorem gL_sits_X4_leave : GoodIn wsL_sits (wsV RL 48 RX4 yX4_leave wsX4_leave) := goodIn_app (goodIn_of _ (by decide +kernel)) ggL_sits_X4_leave
set_option maxRecDepth 20000 in
theorem ggL_sits_L_all : GoodIn wsL_sits wsL_all := goodIn_r _ [95] (by decide +kernel) (by decide +kernel)
set_option maxRecDepth 20000 in
theorem gL_sits_L_all : GoodIn wsL_sits (va_wsS RL 32 yL_all wsL_all) := goodIn_app (goodIn_of _ (by decide +kernel)) ggL_sits_L_all
set_option maxRecDepth 20000 in
theorem ggL_sits_X4_take : GoodIn wsL_sits wsX4_take := goodIn_ca (goodIn_ca (goodIn_r _ [99, 10, 11, 12, 13, 14, 15, 8, 16, 17, 18, 19, 20, 21, 22, 23, 24, 25, 26, 27, 28, 29, 30, 31, 32, 33, 34, 35, 36, 37, 38, 39, 40, 41, 42, 43, 44, 45, 46, 47, 48, 49, 50, 51, 52, 53, 54, 55, 56, 57, 58, 59, 60, 61, 62, 63, 64, 65, 66, 67, 68, 69, 70, 100, 101, 102, 103, 75, 76, 77, 104, 105, 106, 107, 108, 109, 110, 111, 112, 113, 114, 115, 116, 117, 118, 119, 120, 121, 122, 123, 124, 125, 126, 127, 128, 244, 245, 246, 247, 248, 249, 250, 251, 252, 253, 254, 255, 256, 257, 258, 259, 260, 261, 262, 263, 264, 265] (by decide +kernel) (by decide +kernel)) (goodIn_sub (fun _ h => List.mem_cons_of_mem _ (List.mem_append_left _ (List.mem_append_left _ (List.mem_append_right _ h)))) (by decide +kernel))) (goodIn_sub (fun _ h => List.mem_cons_of_mem _ (List.mem_append_left _ (List.mem_append_right _ h))) (by decide +kernel))
set_option maxRecDepth 20000 in
theorem gL_sits_X4_take : GoodIn wsL_sits (wsV RL 51 RX4 yX4_take wsX4_take) := goodIn_app (goodIn_of _ (by decide +kernel)) ggL_sits_X4_take
set_option maxRecDepth 20000 in
theorem ggL_sits_L_people : GoodIn wsL_sits wsL_people := goodIn_r _ [131, 132, 133, 3, 134, 135, 136, 137] (by decide +kernel) (by decide +kernel)
set_option maxRecDepth 20000 in
theorem gL_sits_L_people : GoodIn wsL_sits (va_wsS RL 54 yL_people wsL_people) := goodIn_app (goodIn_of _ (by decide +kernel)) ggL_sits_L_people
set_option maxRecDepth 20000 in
theorem ggL_sits_X4_clear : GoodIn wsL_sits wsX4_clear := goodIn_r _ [141, 12, 31, 32, 33, 8, 34, 35, 36, 37, 38, 39, 40, 41, 42, 43, 44, 45, 46, 47, 48, 49, 50, 28, 51, 52, 53, 54, 55, 56, 57, 58, 59, 30, 60, 61, 62, 63, 64, 65, 66, 67, 68, 69, 70, 78, 79, 80, 81, 82, 83, 84, 85, 86, 87, 88, 89, 90, 91, 92, 142, 143, 144, 145, 244, 245, 246, 247, 248, 259, 260, 249, 250, 251, 252, 253, 254, 255, 256, 257, 258, 261, 262, 263, 264, 265] (by decide +kernel) (by decide +kernel)
set_option maxRecDepth 20000 in
theorem gL_sits_X4_clear : GoodIn wsL_sits (wsV RL 58 RX4 yX4_clear wsX4_clear) := goodIn_app (goodIn_of _ (by decide +kernel)) ggL_sits_X4_clear
set_option maxRecDepth 20000 in
theorem ggL_sits_L_columns : GoodIn wsL_sits wsL_columns := goodIn_r _ [148, 135, 136, 3, 137] (by decide +kernel) (by decide +kernel)
set_option maxRecDepth 20000 in
theorem gL_sits_L_columns : GoodIn wsL_sits (va_wsS RL 62 yL_columns wsL_columns) := goodIn_app (goodIn_of _ (by decide +kernel)) ggL_sits_L_columns
set_option maxRecDepth 20000 in
theorem ggL_sits_X4_count : GoodIn wsL_sits wsX4_count := goodIn_ca (goodIn_r _ [152, 36, 153, 154, 8, 155, 156, 157, 158, 159, 160, 68, 161, 70, 162, 163, 164, 165, 166, 167, 168, 169, 170, 171, 105, 106, 28, 107, 59, 108, 26, 27, 29, 30, 109, 110, 111, 112, 53, 113, 114, 115, 116, 117, 118, 119, 120, 121, 122, 123, 124, 58, 64, 125, 126, 127, 128, 172, 173, 174, 175, 60, 176, 177, 178, 179, 61, 62, 63, 180, 181, 182, 183, 184, 185, 186, 187, 188, 189, 190, 191, 192, 193, 12, 24, 194, 35, 195, 196, 197, 198, 199, 52, 78, 79, 80, 81, 82, 83, 84, 85, 86, 87, 88, 89, 90, 91, 92, 200, 201, 202, 203, 204, 205, 206, 207, 208, 209, 210, 211, 212, 213, 214, 215, 216, 217, 218, 219, 220, 221, 222, 223, 224, 225, 226, 227, 244, 245, 246, 247, 248, 261, 262, 263, 264, 265, 249, 250, 251, 252, 253, 254, 255, 256, 257, 258, 259, 260] (by decide +kernel) (by decide +kernel)) (goodIn_sub (fun _ h => List.mem_cons_of_mem _ (List.mem_append_right _ h)) (by decide +kernel))
set_option maxRecDepth 20000 in
theorem gL_sits_X4_count : GoodIn wsL_sits (wsV RL 66 RX4 yX4_count wsX4_count) := goodIn_app (goodIn_of _ (by decide +kernel)) ggL_sits_X4_count
set_option maxRecDepth 20000 in
theorem ggL_sits_X4_seatParty : GoodIn wsL_sits wsX4_seatParty := goodIn_ca (goodIn_ca (goodIn_r _ [231, 156, 157, 10, 11, 36, 12, 158, 159, 160, 68, 161, 70, 162, 163, 164, 165, 166, 167, 168, 169, 170, 171, 105, 106, 28, 107, 59, 108, 26, 27, 29, 30, 109, 110, 111, 112, 53, 113, 114, 115, 116, 117, 118, 119, 120, 121, 122, 123, 124, 58, 64, 125, 126, 127, 128, 172, 173, 174, 175, 60, 176, 177, 178, 179, 61, 62, 63, 180, 181, 182, 183, 184, 185, 186, 187, 188, 189, 232, 233, 234, 235, 236, 237, 238, 239, 240, 241, 242, 243, 75, 76, 77, 31, 32, 33, 8, 34, 35, 37, 38, 39, 40, 41, 42, 43, 44, 45, 46, 47, 48, 49, 50, 51, 52, 54, 55, 56, 57, 65, 66, 67, 69, 100, 101, 102, 103, 244, 245, 246, 247, 248, 261, 262, 263, 264, 265, 249, 250, 251, 252, 253, 254, 255, 256, 257, 258, 259, 260] (by decide +kernel) (by decide +kernel)) (goodIn_sub (fun _ h => List.mem_cons_of_mem _ (List.mem_append_right _ h)) (by decide +kernel))) (goodIn_sub (fun _ h => List.mem_cons_of_mem _ (List.mem_append_left _ (List.mem_append_left _ (List.mem_append_right _ h)))) (by decide +kernel))
set_option maxRecDepth 20000 in
theorem gL_sits_X4_seatParty : GoodIn wsL_sits (wsV RL 69 RX4 yX4_seatParty wsX4_seatParty) := goodIn_app (goodIn_of _ (by decide +kernel)) ggL_sits_X4_seatParty
theorem dL_sits_0 : decode cL_sits 0 = .ok (.iload_n 1, 1) := by decide +kernel
theorem dL_sits_1 : decode cL_sits 1 = .ok (.bipush 9, 2) := by decide +kernel
theorem dL_sits_3 : decode cL_sits 3 = .ok (.invokestatic 18, 3) := by decide +kernel
theorem dL_sits_6 : decode cL_sits 6 = .ok (.istore 6, 2) := by decide +kernel
theorem dL_sits_8 : decode cL_sits 8 = .ok (.iload_n 2, 1) := by decide +kernel
theorem dL_sits_9 : decode cL_sits 9 = .ok (.aload_n 3, 1) := by decide +kernel
theorem dL_sits_10 : decode cL_sits 10 = .ok (.iconst 0, 1) := by decide +kernel
theorem dL_sits_11 : decode cL_sits 11 = .ok (.iaload, 1) := by decide +kernel
theorem dL_sits_12 : decode cL_sits 12 = .ok (.invokestatic 18, 3) := by decide +kernel
theorem dL_sits_15 : decode cL_sits 15 = .ok (.istore 7, 2) := by decide +kernel
theorem dL_sits_17 : decode cL_sits 17 = .ok (.iload_n 2, 1) := by decide +kernel
theorem dL_sits_18 : decode cL_sits 18 = .ok (.iconst 4, 1) := by decide +kernel
theorem dL_sits_19 : decode cL_sits 19 = .ok (.ishr, 1) := by decide +kernel
theorem dL_sits_20 : decode cL_sits 20 = .ok (.aload 4, 2) := by decide +kernel
theorem dL_sits_22 : decode cL_sits 22 = .ok (.iconst 4, 1) := by decide +kernel
theorem dL_sits_23 : decode cL_sits 23 = .ok (.iload 7, 2) := by decide +kernel
theorem dL_sits_25 : decode cL_sits 25 = .ok (.imul, 1) := by decide +kernel
theorem dL_sits_26 : decode cL_sits 26 = .ok (.iconst 2, 1) := by decide +kernel
theorem dL_sits_27 : decode cL_sits 27 = .ok (.iadd, 1) := by decide +kernel
theorem dL_sits_28 : decode cL_sits 28 = .ok (.iaload, 1) := by decide +kernel
theorem dL_sits_29 : decode cL_sits 29 = .ok (.invokestatic 18, 3) := by decide +kernel
theorem dL_sits_32 : decode cL_sits 32 = .ok (.istore 8, 2) := by decide +kernel
theorem dL_sits_34 : decode cL_sits 34 = .ok (.iload 6, 2) := by decide +kernel
theorem dL_sits_36 : decode cL_sits 36 = .ok (.bipush 6, 2) := by decide +kernel
theorem dL_sits_38 : decode cL_sits 38 = .ok (.if_icmp .ge 117, 3) := by decide +kernel
theorem dL_sits_41 : decode cL_sits 41 = .ok (.aload 4, 2) := by decide +kernel
theorem dL_sits_43 : decode cL_sits 43 = .ok (.iconst 4, 1) := by decide +kernel
theorem dL_sits_44 : decode cL_sits 44 = .ok (.iload 7, 2) := by decide +kernel
theorem dL_sits_46 : decode cL_sits 46 = .ok (.imul, 1) := by decide +kernel
theorem dL_sits_47 : decode cL_sits 47 = .ok (.iconst 3, 1) := by decide +kernel
theorem dL_sits_48 : decode cL_sits 48 = .ok (.iadd, 1) := by decide +kernel
theorem dL_sits_49 : decode cL_sits 49 = .ok (.iaload, 1) := by decide +kernel
theorem dL_sits_50 : decode cL_sits 50 = .ok (.iload 8, 2) := by decide +kernel
theorem dL_sits_52 : decode cL_sits 52 = .ok (.ishr, 1) := by decide +kernel
theorem dL_sits_53 : decode cL_sits 53 = .ok (.iconst 1, 1) := by decide +kernel
theorem dL_sits_54 : decode cL_sits 54 = .ok (.iand, 1) := by decide +kernel
theorem dL_sits_55 : decode cL_sits 55 = .ok (.iconst 1, 1) := by decide +kernel
theorem dL_sits_56 : decode cL_sits 56 = .ok (.if_icmp .ne 7, 3) := by decide +kernel
theorem dL_sits_59 : decode cL_sits 59 = .ok (.iconst 1, 1) := by decide +kernel
theorem dL_sits_60 : decode cL_sits 60 = .ok (.goto 4, 3) := by decide +kernel
theorem dL_sits_63 : decode cL_sits 63 = .ok (.iconst 0, 1) := by decide +kernel
theorem dL_sits_64 : decode cL_sits 64 = .ok (.istore 9, 2) := by decide +kernel
theorem dL_sits_66 : decode cL_sits 66 = .ok (.aload 4, 2) := by decide +kernel
theorem dL_sits_68 : decode cL_sits 68 = .ok (.iconst 4, 1) := by decide +kernel
theorem dL_sits_69 : decode cL_sits 69 = .ok (.iload 7, 2) := by decide +kernel
theorem dL_sits_71 : decode cL_sits 71 = .ok (.imul, 1) := by decide +kernel
theorem dL_sits_72 : decode cL_sits 72 = .ok (.iconst 3, 1) := by decide +kernel
theorem dL_sits_73 : decode cL_sits 73 = .ok (.iadd, 1) := by decide +kernel
theorem dL_sits_74 : decode cL_sits 74 = .ok (.dup2, 1) := by decide +kernel
theorem dL_sits_75 : decode cL_sits 75 = .ok (.iaload, 1) := by decide +kernel
theorem dL_sits_76 : decode cL_sits 76 = .ok (.iconst 1, 1) := by decide +kernel
theorem dL_sits_77 : decode cL_sits 77 = .ok (.iload 8, 2) := by decide +kernel
theorem dL_sits_79 : decode cL_sits 79 = .ok (.ishl, 1) := by decide +kernel
theorem dL_sits_80 : decode cL_sits 80 = .ok (.ixor, 1) := by decide +kernel
theorem dL_sits_81 : decode cL_sits 81 = .ok (.iastore, 1) := by decide +kernel
theorem dL_sits_82 : decode cL_sits 82 = .ok (.aload_n 3, 1) := by decide +kernel
theorem dL_sits_83 : decode cL_sits 83 = .ok (.iconst 2, 1) := by decide +kernel
theorem dL_sits_84 : decode cL_sits 84 = .ok (.iaload, 1) := by decide +kernel
theorem dL_sits_85 : decode cL_sits 85 = .ok (.bipush 6, 2) := by decide +kernel
theorem dL_sits_87 : decode cL_sits 87 = .ok (.if_icmp .ge 10, 3) := by decide +kernel
theorem dL_sits_90 : decode cL_sits 90 = .ok (.aload_n 3, 1) := by decide +kernel
theorem dL_sits_91 : decode cL_sits 91 = .ok (.iconst 2, 1) := by decide +kernel
theorem dL_sits_92 : decode cL_sits 92 = .ok (.dup2, 1) := by decide +kernel
theorem dL_sits_93 : decode cL_sits 93 = .ok (.iaload, 1) := by decide +kernel
theorem dL_sits_94 : decode cL_sits 94 = .ok (.iconst 1, 1) := by decide +kernel
theorem dL_sits_95 : decode cL_sits 95 = .ok (.iadd, 1) := by decide +kernel
theorem dL_sits_96 : decode cL_sits 96 = .ok (.iastore, 1) := by decide +kernel
theorem dL_sits_97 : decode cL_sits 97 = .ok (.iload 9, 2) := by decide +kernel
theorem dL_sits_99 : decode cL_sits 99 = .ok (.ifCond .eq 29, 3) := by decide +kernel
theorem dL_sits_102 : decode cL_sits 102 = .ok (.aload_n 0, 1) := by decide +kernel
theorem dL_sits_103 : decode cL_sits 103 = .ok (.iload 7, 2) := by decide +kernel
theorem dL_sits_105 : decode cL_sits 105 = .ok (.iload 8, 2) := by decide +kernel
theorem dL_sits_107 : decode cL_sits 107 = .ok (.invokevirtual 48, 3) := by decide +kernel
theorem dL_sits_110 : decode cL_sits 110 = .ok (.aload_n 3, 1) := by decide +kernel
theorem dL_sits_111 : decode cL_sits 111 = .ok (.aload 4, 2) := by decide +kernel
theorem dL_sits_113 : decode cL_sits 113 = .ok (.iconst 1, 1) := by decide +kernel
theorem dL_sits_114 : decode cL_sits 114 = .ok (.invokestatic 32, 3) := by decide +kernel
theorem dL_sits_117 : decode cL_sits 117 = .ok (.if_icmp .ne 7, 3) := by decide +kernel
theorem dL_sits_120 : decode cL_sits 120 = .ok (.iconst 1, 1) := by decide +kernel
theorem dL_sits_121 : decode cL_sits 121 = .ok (.goto 33, 3) := by decide +kernel
theorem dL_sits_124 : decode cL_sits 124 = .ok (.iconst 0, 1) := by decide +kernel
theorem dL_sits_125 : decode cL_sits 125 = .ok (.goto 29, 3) := by decide +kernel
theorem dL_sits_128 : decode cL_sits 128 = .ok (.aload_n 0, 1) := by decide +kernel
theorem dL_sits_129 : decode cL_sits 129 = .ok (.iload 7, 2) := by decide +kernel
theorem dL_sits_131 : decode cL_sits 131 = .ok (.iload 8, 2) := by decide +kernel
theorem dL_sits_133 : decode cL_sits 133 = .ok (.invokevirtual 51, 3) := by decide +kernel
theorem dL_sits_136 : decode cL_sits 136 = .ok (.aload_n 3, 1) := by decide +kernel
theorem dL_sits_137 : decode cL_sits 137 = .ok (.aload 4, 2) := by decide +kernel
theorem dL_sits_139 : decode cL_sits 139 = .ok (.iload 7, 2) := by decide +kernel
theorem dL_sits_141 : decode cL_sits 141 = .ok (.iload 8, 2) := by decide +kernel
theorem dL_sits_143 : decode cL_sits 143 = .ok (.invokestatic 54, 3) := by decide +kernel
theorem dL_sits_146 : decode cL_sits 146 = .ok (.if_icmp .ne 7, 3) := by decide +kernel
theorem dL_sits_149 : decode cL_sits 149 = .ok (.iconst 1, 1) := by decide +kernel
theorem dL_sits_150 : decode cL_sits 150 = .ok (.goto 4, 3) := by decide +kernel
theorem dL_sits_153 : decode cL_sits 153 = .ok (.iconst 0, 1) := by decide +kernel
theorem dL_sits_154 : decode cL_sits 154 = .ok (.ireturn, 1) := by decide +kernel
theorem dL_sits_155 : decode cL_sits 155 = .ok (.iload 6, 2) := by decide +kernel
theorem dL_sits_157 : decode cL_sits 157 = .ok (.bipush 6, 2) := by decide +kernel
theorem dL_sits_159 : decode cL_sits 159 = .ok (.if_icmp .ne 80, 3) := by decide +kernel
theorem dL_sits_162 : decode cL_sits 162 = .ok (.iload_n 2, 1) := by decide +kernel
theorem dL_sits_163 : decode cL_sits 163 = .ok (.bipush 8, 2) := by decide +kernel
theorem dL_sits_165 : decode cL_sits 165 = .ok (.ishr, 1) := by decide +kernel
theorem dL_sits_166 : decode cL_sits 166 = .ok (.iconst 3, 1) := by decide +kernel
theorem dL_sits_167 : decode cL_sits 167 = .ok (.invokestatic 18, 3) := by decide +kernel
theorem dL_sits_170 : decode cL_sits 170 = .ok (.ifCond .ne 69, 3) := by decide +kernel
theorem dL_sits_173 : decode cL_sits 173 = .ok (.aload_n 3, 1) := by decide +kernel
theorem dL_sits_174 : decode cL_sits 174 = .ok (.aload 4, 2) := by decide +kernel
theorem dL_sits_176 : decode cL_sits 176 = .ok (.iconst 1, 1) := by decide +kernel
theorem dL_sits_177 : decode cL_sits 177 = .ok (.invokestatic 32, 3) := by decide +kernel
theorem dL_sits_180 : decode cL_sits 180 = .ok (.istore 9, 2) := by decide +kernel
theorem dL_sits_182 : decode cL_sits 182 = .ok (.iconst 0, 1) := by decide +kernel
theorem dL_sits_183 : decode cL_sits 183 = .ok (.istore 10, 2) := by decide +kernel
theorem dL_sits_185 : decode cL_sits 185 = .ok (.iload 10, 2) := by decide +kernel
theorem dL_sits_187 : decode cL_sits 187 = .ok (.aload_n 3, 1) := by decide +kernel
theorem dL_sits_188 : decode cL_sits 188 = .ok (.iconst 0, 1) := by decide +kernel
theorem dL_sits_189 : decode cL_sits 189 = .ok (.iaload, 1) := by decide +kernel
theorem dL_sits_190 : decode cL_sits 190 = .ok (.if_icmp .ge 19, 3) := by decide +kernel
theorem dL_sits_193 : decode cL_sits 193 = .ok (.aload 4, 2) := by decide +kernel
theorem dL_sits_195 : decode cL_sits 195 = .ok (.iconst 4, 1) := by decide +kernel
theorem dL_sits_196 : decode cL_sits 196 = .ok (.iload 10, 2) := by decide +kernel
theorem dL_sits_198 : decode cL_sits 198 = .ok (.imul, 1) := by decide +kernel
theorem dL_sits_199 : decode cL_sits 199 = .ok (.iconst 3, 1) := by decide +kernel
theorem dL_sits_200 : decode cL_sits 200 = .ok (.iadd, 1) := by decide +kernel
theorem dL_sits_201 : decode cL_sits 201 = .ok (.iconst 0, 1) := by decide +kernel
theorem dL_sits_202 : decode cL_sits 202 = .ok (.iastore, 1) := by decide +kernel
theorem dL_sits_203 : decode cL_sits 203 = .ok (.iinc 10 1, 3) := by decide +kernel
theorem dL_sits_206 : decode cL_sits 206 = .ok (.goto (-21), 3) := by decide +kernel
theorem dL_sits_209 : decode cL_sits 209 = .ok (.aload_n 3, 1) := by decide +kernel
theorem dL_sits_210 : decode cL_sits 210 = .ok (.iconst 2, 1) := by decide +kernel
theorem dL_sits_211 : decode cL_sits 211 = .ok (.iaload, 1) := by decide +kernel
theorem dL_sits_212 : decode cL_sits 212 = .ok (.bipush 6, 2) := by decide +kernel
theorem dL_sits_214 : decode cL_sits 214 = .ok (.if_icmp .ge 10, 3) := by decide +kernel
theorem dL_sits_217 : decode cL_sits 217 = .ok (.aload_n 3, 1) := by decide +kernel
theorem dL_sits_218 : decode cL_sits 218 = .ok (.iconst 2, 1) := by decide +kernel
theorem dL_sits_219 : decode cL_sits 219 = .ok (.dup2, 1) := by decide +kernel
theorem dL_sits_220 : decode cL_sits 220 = .ok (.iaload, 1) := by decide +kernel
theorem dL_sits_221 : decode cL_sits 221 = .ok (.iconst 1, 1) := by decide +kernel
theorem dL_sits_222 : decode cL_sits 222 = .ok (.iadd, 1) := by decide +kernel
theorem dL_sits_223 : decode cL_sits 223 = .ok (.iastore, 1) := by decide +kernel
theorem dL_sits_224 : decode cL_sits 224 = .ok (.aload_n 0, 1) := by decide +kernel
theorem dL_sits_225 : decode cL_sits 225 = .ok (.invokevirtual 58, 3) := by decide +kernel
theorem dL_sits_228 : decode cL_sits 228 = .ok (.iload 9, 2) := by decide +kernel
theorem dL_sits_230 : decode cL_sits 230 = .ok (.if_icmp .ne 7, 3) := by decide +kernel
theorem dL_sits_233 : decode cL_sits 233 = .ok (.iconst 1, 1) := by decide +kernel
theorem dL_sits_234 : decode cL_sits 234 = .ok (.goto 4, 3) := by decide +kernel
theorem dL_sits_237 : decode cL_sits 237 = .ok (.iconst 0, 1) := by decide +kernel
theorem dL_sits_238 : decode cL_sits 238 = .ok (.ireturn, 1) := by decide +kernel
theorem dL_sits_239 : decode cL_sits 239 = .ok (.iconst 1, 1) := by decide +kernel
theorem dL_sits_240 : decode cL_sits 240 = .ok (.iload_n 2, 1) := by decide +kernel
theorem dL_sits_241 : decode cL_sits 241 = .ok (.iconst 4, 1) := by decide +kernel
theorem dL_sits_242 : decode cL_sits 242 = .ok (.ishr, 1) := by decide +kernel
theorem dL_sits_243 : decode cL_sits 243 = .ok (.iconst 4, 1) := by decide +kernel
theorem dL_sits_244 : decode cL_sits 244 = .ok (.invokestatic 18, 3) := by decide +kernel
theorem dL_sits_247 : decode cL_sits 247 = .ok (.iadd, 1) := by decide +kernel
theorem dL_sits_248 : decode cL_sits 248 = .ok (.istore 9, 2) := by decide +kernel
theorem dL_sits_250 : decode cL_sits 250 = .ok (.iconst (-1), 1) := by decide +kernel
theorem dL_sits_251 : decode cL_sits 251 = .ok (.istore 10, 2) := by decide +kernel
theorem dL_sits_253 : decode cL_sits 253 = .ok (.iconst 0, 1) := by decide +kernel
theorem dL_sits_254 : decode cL_sits 254 = .ok (.istore 11, 2) := by decide +kernel
theorem dL_sits_256 : decode cL_sits 256 = .ok (.iconst 0, 1) := by decide +kernel
theorem dL_sits_257 : decode cL_sits 257 = .ok (.istore 12, 2) := by decide +kernel
theorem dL_sits_259 : decode cL_sits 259 = .ok (.iload 12, 2) := by decide +kernel
theorem dL_sits_261 : decode cL_sits 261 = .ok (.aload_n 3, 1) := by decide +kernel
theorem dL_sits_262 : decode cL_sits 262 = .ok (.iconst 0, 1) := by decide +kernel
theorem dL_sits_263 : decode cL_sits 263 = .ok (.iaload, 1) := by decide +kernel
theorem dL_sits_264 : decode cL_sits 264 = .ok (.if_icmp .ge 141, 3) := by decide +kernel
theorem dL_sits_267 : decode cL_sits 267 = .ok (.iconst 0, 1) := by decide +kernel
theorem dL_sits_268 : decode cL_sits 268 = .ok (.istore 13, 2) := by decide +kernel
theorem dL_sits_270 : decode cL_sits 270 = .ok (.iload 13, 2) := by decide +kernel
theorem dL_sits_272 : decode cL_sits 272 = .ok (.iload 9, 2) := by decide +kernel
theorem dL_sits_274 : decode cL_sits 274 = .ok (.iadd, 1) := by decide +kernel
theorem dL_sits_275 : decode cL_sits 275 = .ok (.aload 4, 2) := by decide +kernel
theorem dL_sits_277 : decode cL_sits 277 = .ok (.iconst 4, 1) := by decide +kernel
theorem dL_sits_278 : decode cL_sits 278 = .ok (.iload 12, 2) := by decide +kernel
theorem dL_sits_280 : decode cL_sits 280 = .ok (.imul, 1) := by decide +kernel
theorem dL_sits_281 : decode cL_sits 281 = .ok (.iconst 2, 1) := by decide +kernel
theorem dL_sits_282 : decode cL_sits 282 = .ok (.iadd, 1) := by decide +kernel
theorem dL_sits_283 : decode cL_sits 283 = .ok (.iaload, 1) := by decide +kernel
theorem dL_sits_284 : decode cL_sits 284 = .ok (.if_icmp .gt 115, 3) := by decide +kernel
theorem dL_sits_287 : decode cL_sits 287 = .ok (.iconst 0, 1) := by decide +kernel
theorem dL_sits_288 : decode cL_sits 288 = .ok (.istore 14, 2) := by decide +kernel
theorem dL_sits_290 : decode cL_sits 290 = .ok (.iconst 1, 1) := by decide +kernel
theorem dL_sits_291 : decode cL_sits 291 = .ok (.istore 15, 2) := by decide +kernel
theorem dL_sits_293 : decode cL_sits 293 = .ok (.iload 13, 2) := by decide +kernel
theorem dL_sits_295 : decode cL_sits 295 = .ok (.istore 16, 2) := by decide +kernel
theorem dL_sits_297 : decode cL_sits 297 = .ok (.iload 16, 2) := by decide +kernel
theorem dL_sits_299 : decode cL_sits 299 = .ok (.iload 13, 2) := by decide +kernel
theorem dL_sits_301 : decode cL_sits 301 = .ok (.iload 9, 2) := by decide +kernel
theorem dL_sits_303 : decode cL_sits 303 = .ok (.iadd, 1) := by decide +kernel
theorem dL_sits_304 : decode cL_sits 304 = .ok (.if_icmp .ge 58, 3) := by decide +kernel
theorem dL_sits_307 : decode cL_sits 307 = .ok (.aload 4, 2) := by decide +kernel
theorem dL_sits_309 : decode cL_sits 309 = .ok (.iconst 4, 1) := by decide +kernel
theorem dL_sits_310 : decode cL_sits 310 = .ok (.iload 12, 2) := by decide +kernel
theorem dL_sits_312 : decode cL_sits 312 = .ok (.imul, 1) := by decide +kernel
theorem dL_sits_313 : decode cL_sits 313 = .ok (.iconst 3, 1) := by decide +kernel
theorem dL_sits_314 : decode cL_sits 314 = .ok (.iadd, 1) := by decide +kernel
theorem dL_sits_315 : decode cL_sits 315 = .ok (.iaload, 1) := by decide +kernel
theorem dL_sits_316 : decode cL_sits 316 = .ok (.iload 16, 2) := by decide +kernel
theorem dL_sits_318 : decode cL_sits 318 = .ok (.ishr, 1) := by decide +kernel
theorem dL_sits_319 : decode cL_sits 319 = .ok (.iconst 1, 1) := by decide +kernel
theorem dL_sits_320 : decode cL_sits 320 = .ok (.iand, 1) := by decide +kernel
theorem dL_sits_321 : decode cL_sits 321 = .ok (.iconst 1, 1) := by decide +kernel
theorem dL_sits_322 : decode cL_sits 322 = .ok (.if_icmp .ne 6, 3) := by decide +kernel
theorem dL_sits_325 : decode cL_sits 325 = .ok (.iconst 0, 1) := by decide +kernel
theorem dL_sits_326 : decode cL_sits 326 = .ok (.istore 15, 2) := by decide +kernel
theorem dL_sits_328 : decode cL_sits 328 = .ok (.iload 14, 2) := by decide +kernel
theorem dL_sits_330 : decode cL_sits 330 = .ok (.aload_n 3, 1) := by decide +kernel
theorem dL_sits_331 : decode cL_sits 331 = .ok (.aload 4, 2) := by decide +kernel
theorem dL_sits_333 : decode cL_sits 333 = .ok (.iload 12, 2) := by decide +kernel
theorem dL_sits_335 : decode cL_sits 335 = .ok (.iload 16, 2) := by decide +kernel
theorem dL_sits_337 : decode cL_sits 337 = .ok (.invokestatic 54, 3) := by decide +kernel
theorem dL_sits_340 : decode cL_sits 340 = .ok (.aload_n 3, 1) := by decide +kernel
theorem dL_sits_341 : decode cL_sits 341 = .ok (.aload 4, 2) := by decide +kernel
theorem dL_sits_343 : decode cL_sits 343 = .ok (.aload 5, 2) := by decide +kernel
theorem dL_sits_345 : decode cL_sits 345 = .ok (.iload 12, 2) := by decide +kernel
theorem dL_sits_347 : decode cL_sits 347 = .ok (.iload 16, 2) := by decide +kernel
theorem dL_sits_349 : decode cL_sits 349 = .ok (.invokestatic 62, 3) := by decide +kernel
theorem dL_sits_352 : decode cL_sits 352 = .ok (.iadd, 1) := by decide +kernel
theorem dL_sits_353 : decode cL_sits 353 = .ok (.iadd, 1) := by decide +kernel
theorem dL_sits_354 : decode cL_sits 354 = .ok (.istore 14, 2) := by decide +kernel
theorem dL_sits_356 : decode cL_sits 356 = .ok (.iinc 16 1, 3) := by decide +kernel
theorem dL_sits_359 : decode cL_sits 359 = .ok (.goto (-62), 3) := by decide +kernel
theorem dL_sits_362 : decode cL_sits 362 = .ok (.iload 15, 2) := by decide +kernel
theorem dL_sits_364 : decode cL_sits 364 = .ok (.ifCond .eq 29, 3) := by decide +kernel
theorem dL_sits_367 : decode cL_sits 367 = .ok (.iload 10, 2) := by decide +kernel
theorem dL_sits_369 : decode cL_sits 369 = .ok (.ifCond .lt 10, 3) := by decide +kernel
theorem dL_sits_372 : decode cL_sits 372 = .ok (.iload 14, 2) := by decide +kernel
theorem dL_sits_374 : decode cL_sits 374 = .ok (.iload 11, 2) := by decide +kernel
theorem dL_sits_376 : decode cL_sits 376 = .ok (.if_icmp .ge 17, 3) := by decide +kernel
theorem dL_sits_379 : decode cL_sits 379 = .ok (.bipush 100, 2) := by decide +kernel
theorem dL_sits_381 : decode cL_sits 381 = .ok (.iload 12, 2) := by decide +kernel
theorem dL_sits_383 : decode cL_sits 383 = .ok (.imul, 1) := by decide +kernel
theorem dL_sits_384 : decode cL_sits 384 = .ok (.iload 13, 2) := by decide +kernel
theorem dL_sits_386 : decode cL_sits 386 = .ok (.iadd, 1) := by decide +kernel
theorem dL_sits_387 : decode cL_sits 387 = .ok (.istore 10, 2) := by decide +kernel
theorem dL_sits_389 : decode cL_sits 389 = .ok (.iload 14, 2) := by decide +kernel
theorem dL_sits_391 : decode cL_sits 391 = .ok (.istore 11, 2) := by decide +kernel
theorem dL_sits_393 : decode cL_sits 393 = .ok (.iinc 13 1, 3) := by decide +kernel
theorem dL_sits_396 : decode cL_sits 396 = .ok (.goto (-126), 3) := by decide +kernel
theorem dL_sits_399 : decode cL_sits 399 = .ok (.iinc 12 1, 3) := by decide +kernel
theorem dL_sits_402 : decode cL_sits 402 = .ok (.goto (-143), 3) := by decide +kernel
theorem dL_sits_405 : decode cL_sits 405 = .ok (.iload 10, 2) := by decide +kernel
theorem dL_sits_407 : decode cL_sits 407 = .ok (.ifCond .ge 20, 3) := by decide +kernel
theorem dL_sits_410 : decode cL_sits 410 = .ok (.aload_n 0, 1) := by decide +kernel
theorem dL_sits_411 : decode cL_sits 411 = .ok (.bipush 7, 2) := by decide +kernel
theorem dL_sits_413 : decode cL_sits 413 = .ok (.invokevirtual 66, 3) := by decide +kernel
theorem dL_sits_416 : decode cL_sits 416 = .ok (.iload 9, 2) := by decide +kernel
theorem dL_sits_418 : decode cL_sits 418 = .ok (.if_icmp .ge 7, 3) := by decide +kernel
theorem dL_sits_421 : decode cL_sits 421 = .ok (.iconst 1, 1) := by decide +kernel
theorem dL_sits_422 : decode cL_sits 422 = .ok (.goto 4, 3) := by decide +kernel
theorem dL_sits_425 : decode cL_sits 425 = .ok (.iconst 0, 1) := by decide +kernel
theorem dL_sits_426 : decode cL_sits 426 = .ok (.ireturn, 1) := by decide +kernel
theorem dL_sits_427 : decode cL_sits 427 = .ok (.iconst 0, 1) := by decide +kernel
theorem dL_sits_428 : decode cL_sits 428 = .ok (.istore 12, 2) := by decide +kernel
theorem dL_sits_430 : decode cL_sits 430 = .ok (.iload 12, 2) := by decide +kernel
theorem dL_sits_432 : decode cL_sits 432 = .ok (.iload 9, 2) := by decide +kernel
theorem dL_sits_434 : decode cL_sits 434 = .ok (.if_icmp .ge 34, 3) := by decide +kernel
theorem dL_sits_437 : decode cL_sits 437 = .ok (.aload 4, 2) := by decide +kernel
theorem dL_sits_439 : decode cL_sits 439 = .ok (.iconst 4, 1) := by decide +kernel
theorem dL_sits_440 : decode cL_sits 440 = .ok (.iload 10, 2) := by decide +kernel
theorem dL_sits_442 : decode cL_sits 442 = .ok (.bipush 100, 2) := by decide +kernel
theorem dL_sits_444 : decode cL_sits 444 = .ok (.idiv, 1) := by decide +kernel
theorem dL_sits_445 : decode cL_sits 445 = .ok (.imul, 1) := by decide +kernel
theorem dL_sits_446 : decode cL_sits 446 = .ok (.iconst 3, 1) := by decide +kernel
theorem dL_sits_447 : decode cL_sits 447 = .ok (.iadd, 1) := by decide +kernel
theorem dL_sits_448 : decode cL_sits 448 = .ok (.dup2, 1) := by decide +kernel
theorem dL_sits_449 : decode cL_sits 449 = .ok (.iaload, 1) := by decide +kernel
theorem dL_sits_450 : decode cL_sits 450 = .ok (.iconst 1, 1) := by decide +kernel
theorem dL_sits_451 : decode cL_sits 451 = .ok (.iload 10, 2) := by decide +kernel
theorem dL_sits_453 : decode cL_sits 453 = .ok (.bipush 100, 2) := by decide +kernel
theorem dL_sits_455 : decode cL_sits 455 = .ok (.irem, 1) := by decide +kernel
theorem dL_sits_456 : decode cL_sits 456 = .ok (.iload 12, 2) := by decide +kernel
theorem dL_sits_458 : decode cL_sits 458 = .ok (.iadd, 1) := by decide +kernel
theorem dL_sits_459 : decode cL_sits 459 = .ok (.ishl, 1) := by decide +kernel
theorem dL_sits_460 : decode cL_sits 460 = .ok (.ior, 1) := by decide +kernel
theorem dL_sits_461 : decode cL_sits 461 = .ok (.iastore, 1) := by decide +kernel
theorem dL_sits_462 : decode cL_sits 462 = .ok (.iinc 12 1, 3) := by decide +kernel
theorem dL_sits_465 : decode cL_sits 465 = .ok (.goto (-35), 3) := by decide +kernel
theorem dL_sits_468 : decode cL_sits 468 = .ok (.aload_n 3, 1) := by decide +kernel
theorem dL_sits_469 : decode cL_sits 469 = .ok (.iconst 2, 1) := by decide +kernel
theorem dL_sits_470 : decode cL_sits 470 = .ok (.iaload, 1) := by decide +kernel
theorem dL_sits_471 : decode cL_sits 471 = .ok (.bipush 6, 2) := by decide +kernel
theorem dL_sits_473 : decode cL_sits 473 = .ok (.if_icmp .ge 10, 3) := by decide +kernel
theorem dL_sits_476 : decode cL_sits 476 = .ok (.aload_n 3, 1) := by decide +kernel
theorem dL_sits_477 : decode cL_sits 477 = .ok (.iconst 2, 1) := by decide +kernel
theorem dL_sits_478 : decode cL_sits 478 = .ok (.dup2, 1) := by decide +kernel
theorem dL_sits_479 : decode cL_sits 479 = .ok (.iaload, 1) := by decide +kernel
theorem dL_sits_480 : decode cL_sits 480 = .ok (.iconst 1, 1) := by decide +kernel
theorem dL_sits_481 : decode cL_sits 481 = .ok (.iadd, 1) := by decide +kernel
theorem dL_sits_482 : decode cL_sits 482 = .ok (.iastore, 1) := by decide +kernel
theorem dL_sits_483 : decode cL_sits 483 = .ok (.aload_n 0, 1) := by decide +kernel
theorem dL_sits_484 : decode cL_sits 484 = .ok (.iload 9, 2) := by decide +kernel
theorem dL_sits_486 : decode cL_sits 486 = .ok (.invokevirtual 69, 3) := by decide +kernel
theorem dL_sits_489 : decode cL_sits 489 = .ok (.iload 10, 2) := by decide +kernel
theorem dL_sits_491 : decode cL_sits 491 = .ok (.if_icmp .ne 7, 3) := by decide +kernel
theorem dL_sits_494 : decode cL_sits 494 = .ok (.iconst 1, 1) := by decide +kernel
theorem dL_sits_495 : decode cL_sits 495 = .ok (.goto 4, 3) := by decide +kernel
theorem dL_sits_498 : decode cL_sits 498 = .ok (.iconst 0, 1) := by decide +kernel
theorem dL_sits_499 : decode cL_sits 499 = .ok (.ireturn, 1) := by decide +kernel
end
section
theorem goodIn_cons {big ws : List Cond} {c : Cond} (h : c ∈ big) (hg : goodWord c = true) (hr : GoodIn big ws) : GoodIn big (c :: ws) := fun w hw => (List.mem_cons.mp hw).elim (fun e => by subst e; exact ⟨h, good_of_word hg⟩) (hr w)
set_option maxRecDepth 20000 in
theorem ggL_agree_X4_row : GoodIn wsL_agree wsX4_row := goodIn_ca (goodIn_ca (goodIn_r _ [5, 6, 7, 8, 9, 4, 10, 11, 12, 13, 14, 15, 16, 17, 18, 19, 20, 21, 22, 23, 24, 25, 26, 27, 28, 29, 30, 31, 32, 33, 34, 35, 36, 37, 38, 39, 40, 41, 42, 43, 44, 45, 46, 47, 48, 49, 50, 51, 52, 53, 54, 55, 56, 57, 58, 59, 60, 61, 62, 63, 64, 65, 66, 67, 68, 69, 70, 71, 72, 73, 74, 75, 76, 77, 78, 79, 80, 81, 82, 83, 84, 85, 86, 87, 88, 89, 90, 91, 92, 93, 94, 95, 96, 97, 98, 99, 100, 101, 102, 103, 104, 105, 106, 107, 108, 109, 110, 111, 112, 113, 114, 115, 116, 220, 221, 222, 223, 224, 225, 226, 227, 228, 229, 230, 231, 232, 233, 234, 235, 236, 237, 238, 239] (by decide +kernel) (by decide +kernel)) (goodIn_sub (fun _ h => List.mem_cons_of_mem _ (List.mem_append_left _ (List.mem_append_right _ h))) (by decide +kernel))) (goodIn_sub (fun _ h => List.mem_cons_of_mem _ (List.mem_append_right _ h)) (by decide +kernel))
set_option maxRecDepth 20000 in
theorem gL_agree_X4_row : GoodIn wsL_agree (wsV RL 72 RX4 yX4_row wsX4_row) := goodIn_app (goodIn_of _ (by decide +kernel)) ggL_agree_X4_row
set_option maxRecDepth 20000 in
theorem ggL_agree_L_people : GoodIn wsL_agree wsL_people := goodIn_r _ [120, 121, 122, 119, 123, 124, 125, 126] (by decide +kernel) (by decide +kernel)
set_option maxRecDepth 20000 in
theorem gL_agree_L_people : GoodIn wsL_agree (va_wsS RL 54 yL_people wsL_people) := goodIn_app (goodIn_of _ (by decide +kernel)) ggL_agree_L_people
set_option maxRecDepth 20000 in
theorem ggL_agree_L_columns : GoodIn wsL_agree wsL_columns := goodIn_r _ [129, 124, 125, 119, 126] (by decide +kernel) (by decide +kernel)
set_option maxRecDepth 20000 in
theorem gL_agree_L_columns : GoodIn wsL_agree (va_wsS RL 62 yL_columns wsL_columns) := goodIn_app (goodIn_of _ (by decide +kernel)) ggL_agree_L_columns
set_option maxRecDepth 20000 in
theorem ggL_agree_X4_seat : GoodIn wsL_agree wsX4_seat := goodIn_ca (goodIn_ca (goodIn_r _ [133, 6, 134, 135, 136, 4, 137, 11, 12, 13, 97, 7, 8, 9, 10, 14, 15, 16, 17, 18, 19, 20, 21, 22, 23, 24, 25, 26, 27, 28, 29, 30, 31, 32, 33, 34, 35, 36, 37, 38, 39, 40, 41, 42, 43, 44, 45, 46, 47, 48, 49, 50, 51, 52, 53, 54, 55, 56, 57, 58, 59, 60, 61, 62, 63, 64, 65, 66, 67, 68, 69, 70, 71, 72, 73, 74, 75, 76, 77, 78, 79, 80, 81, 82, 83, 84, 85, 86, 87, 88, 89, 90, 138, 139, 140, 141, 142, 143, 144, 145, 146, 147, 114, 115, 116, 148, 149, 150, 151, 152, 153, 154, 155, 156, 157, 220, 221, 222, 223, 224, 225, 226, 227, 228, 229, 230, 231, 232, 233, 234, 235, 236, 237, 238, 239] (by decide +kernel) (by decide +kernel)) (goodIn_sub (fun _ h => List.mem_cons_of_mem _ (List.mem_append_left _ (List.mem_append_right _ h))) (by decide +kernel))) (goodIn_sub (fun _ h => List.mem_cons_of_mem _ (List.mem_append_right _ h)) (by decide +kernel))
set_option maxRecDepth 20000 in
theorem gL_agree_X4_seat : GoodIn wsL_agree (wsV RL 75 RX4 yX4_seat wsX4_seat) := goodIn_app (goodIn_of _ (by decide +kernel)) ggL_agree_X4_seat
set_option maxRecDepth 20000 in
theorem ggL_agree_L_side : GoodIn wsL_agree wsL_side := goodIn_r _ [126] (by decide +kernel) (by decide +kernel)
set_option maxRecDepth 20000 in
theorem gL_agree_L_side : GoodIn wsL_agree (va_wsS RL 8 yL_side wsL_side) := goodIn_app (goodIn_of _ (by decide +kernel)) ggL_agree_L_side
set_option maxRecDepth 20000 in
theorem ggL_agree_X4_column : GoodIn wsL_agree wsX4_column := goodIn_ca (goodIn_ca (goodIn_r _ [161, 162, 163, 164, 4, 165, 11, 12, 13, 166, 15, 16, 17, 18, 19, 167, 168, 169, 170, 171, 172, 173, 174, 175, 176, 38, 177, 152, 40, 74, 75, 76, 77, 50, 78, 79, 51, 52, 53, 54, 80, 55, 56, 57, 58, 220, 221, 222, 223, 224, 225, 226, 227, 228, 229, 230, 231, 232, 233, 234] (by decide +kernel) (by decide +kernel)) (goodIn_sub (fun _ h => List.mem_cons_of_mem _ (List.mem_append_left _ (List.mem_append_right _ h))) (by decide +kernel))) (goodIn_sub (fun _ h => List.mem_cons_of_mem _ (List.mem_append_right _ h)) (by decide +kernel))
set_option maxRecDepth 20000 in
theorem gL_agree_X4_column : GoodIn wsL_agree (wsV RL 78 RX4 yX4_column wsX4_column) := goodIn_app (goodIn_of _ (by decide +kernel)) ggL_agree_X4_column
set_option maxRecDepth 20000 in
theorem ggL_agree_X4_count : GoodIn wsL_agree wsX4_count := goodIn_ca (goodIn_r _ [181, 6, 15, 16, 4, 17, 18, 19, 20, 21, 22, 23, 24, 25, 26, 27, 28, 29, 30, 31, 32, 33, 34, 35, 36, 37, 38, 39, 40, 41, 42, 43, 44, 45, 46, 47, 48, 49, 50, 51, 52, 53, 54, 55, 56, 57, 58, 59, 60, 61, 62, 63, 64, 65, 66, 67, 68, 69, 70, 71, 72, 73, 74, 75, 76, 77, 78, 79, 80, 81, 82, 83, 84, 85, 86, 87, 88, 89, 90, 182, 183, 184, 185, 13, 14, 166, 186, 187, 188, 189, 190, 191, 152, 192, 193, 194, 195, 196, 99, 100, 101, 102, 103, 104, 105, 106, 107, 108, 197, 198, 199, 200, 201, 110, 111, 112, 113, 114, 115, 116, 202, 203, 204, 205, 157, 206, 207, 208, 209, 210, 211, 212, 213, 214, 215, 216, 220, 221, 222, 223, 224, 235, 236, 237, 238, 239, 225, 226, 227, 228, 229, 230, 231, 232, 233, 234, 240, 241] (by decide +kernel) (by decide +kernel)) (goodIn_sub (fun _ h => List.mem_cons_of_mem _ (List.mem_append_right _ h)) (by decide +kernel))
set_option maxRecDepth 20000 in
theorem gL_agree_X4_count : GoodIn wsL_agree (wsV RL 66 RX4 yX4_count wsX4_count) := goodIn_app (goodIn_of _ (by decide +kernel)) ggL_agree_X4_count
set_option maxRecDepth 20000 in
theorem ggL_agree_L_all : GoodIn wsL_agree wsL_all := goodIn_r _ [219] (by decide +kernel) (by decide +kernel)
set_option maxRecDepth 20000 in
theorem gL_agree_L_all : GoodIn wsL_agree (va_wsS RL 32 yL_all wsL_all) := goodIn_app (goodIn_of _ (by decide +kernel)) ggL_agree_L_all
theorem dL_agree_0 : decode cL_agree 0 = .ok (.iconst 0, 1) := by decide +kernel
theorem dL_agree_1 : decode cL_agree 1 = .ok (.istore 4, 2) := by decide +kernel
theorem dL_agree_3 : decode cL_agree 3 = .ok (.iconst 0, 1) := by decide +kernel
theorem dL_agree_4 : decode cL_agree 4 = .ok (.istore 5, 2) := by decide +kernel
theorem dL_agree_6 : decode cL_agree 6 = .ok (.iconst 0, 1) := by decide +kernel
theorem dL_agree_7 : decode cL_agree 7 = .ok (.istore 6, 2) := by decide +kernel
theorem dL_agree_9 : decode cL_agree 9 = .ok (.iconst 0, 1) := by decide +kernel
theorem dL_agree_10 : decode cL_agree 10 = .ok (.istore 7, 2) := by decide +kernel
theorem dL_agree_12 : decode cL_agree 12 = .ok (.iload 7, 2) := by decide +kernel
theorem dL_agree_14 : decode cL_agree 14 = .ok (.aload_n 1, 1) := by decide +kernel
theorem dL_agree_15 : decode cL_agree 15 = .ok (.iconst 0, 1) := by decide +kernel
theorem dL_agree_16 : decode cL_agree 16 = .ok (.iaload, 1) := by decide +kernel
theorem dL_agree_17 : decode cL_agree 17 = .ok (.if_icmp .ge 211, 3) := by decide +kernel
theorem dL_agree_20 : decode cL_agree 20 = .ok (.iconst 0, 1) := by decide +kernel
theorem dL_agree_21 : decode cL_agree 21 = .ok (.istore 8, 2) := by decide +kernel
theorem dL_agree_23 : decode cL_agree 23 = .ok (.iload 8, 2) := by decide +kernel
theorem dL_agree_25 : decode cL_agree 25 = .ok (.iconst 3, 1) := by decide +kernel
theorem dL_agree_26 : decode cL_agree 26 = .ok (.if_icmp .ge 31, 3) := by decide +kernel
theorem dL_agree_29 : decode cL_agree 29 = .ok (.aload_n 0, 1) := by decide +kernel
theorem dL_agree_30 : decode cL_agree 30 = .ok (.iload 7, 2) := by decide +kernel
theorem dL_agree_32 : decode cL_agree 32 = .ok (.iload 8, 2) := by decide +kernel
theorem dL_agree_34 : decode cL_agree 34 = .ok (.invokevirtual 72, 3) := by decide +kernel
theorem dL_agree_37 : decode cL_agree 37 = .ok (.aload_n 2, 1) := by decide +kernel
theorem dL_agree_38 : decode cL_agree 38 = .ok (.iconst 4, 1) := by decide +kernel
theorem dL_agree_39 : decode cL_agree 39 = .ok (.iload 7, 2) := by decide +kernel
theorem dL_agree_41 : decode cL_agree 41 = .ok (.imul, 1) := by decide +kernel
theorem dL_agree_42 : decode cL_agree 42 = .ok (.iload 8, 2) := by decide +kernel
theorem dL_agree_44 : decode cL_agree 44 = .ok (.iadd, 1) := by decide +kernel
theorem dL_agree_45 : decode cL_agree 45 = .ok (.iaload, 1) := by decide +kernel
theorem dL_agree_46 : decode cL_agree 46 = .ok (.if_icmp .eq 5, 3) := by decide +kernel
theorem dL_agree_49 : decode cL_agree 49 = .ok (.iconst 0, 1) := by decide +kernel
theorem dL_agree_50 : decode cL_agree 50 = .ok (.ireturn, 1) := by decide +kernel
theorem dL_agree_51 : decode cL_agree 51 = .ok (.iinc 8 1, 3) := by decide +kernel
theorem dL_agree_54 : decode cL_agree 54 = .ok (.goto (-31), 3) := by decide +kernel
theorem dL_agree_57 : decode cL_agree 57 = .ok (.iconst 0, 1) := by decide +kernel
theorem dL_agree_58 : decode cL_agree 58 = .ok (.istore 8, 2) := by decide +kernel
theorem dL_agree_60 : decode cL_agree 60 = .ok (.iload 8, 2) := by decide +kernel
theorem dL_agree_62 : decode cL_agree 62 = .ok (.aload_n 2, 1) := by decide +kernel
theorem dL_agree_63 : decode cL_agree 63 = .ok (.iconst 4, 1) := by decide +kernel
theorem dL_agree_64 : decode cL_agree 64 = .ok (.iload 7, 2) := by decide +kernel
theorem dL_agree_66 : decode cL_agree 66 = .ok (.imul, 1) := by decide +kernel
theorem dL_agree_67 : decode cL_agree 67 = .ok (.iconst 2, 1) := by decide +kernel
theorem dL_agree_68 : decode cL_agree 68 = .ok (.iadd, 1) := by decide +kernel
theorem dL_agree_69 : decode cL_agree 69 = .ok (.iaload, 1) := by decide +kernel
theorem dL_agree_70 : decode cL_agree 70 = .ok (.if_icmp .ge 152, 3) := by decide +kernel
theorem dL_agree_73 : decode cL_agree 73 = .ok (.aload_n 1, 1) := by decide +kernel
theorem dL_agree_74 : decode cL_agree 74 = .ok (.aload_n 2, 1) := by decide +kernel
theorem dL_agree_75 : decode cL_agree 75 = .ok (.iload 7, 2) := by decide +kernel
theorem dL_agree_77 : decode cL_agree 77 = .ok (.iload 8, 2) := by decide +kernel
theorem dL_agree_79 : decode cL_agree 79 = .ok (.invokestatic 54, 3) := by decide +kernel
theorem dL_agree_82 : decode cL_agree 82 = .ok (.istore 9, 2) := by decide +kernel
theorem dL_agree_84 : decode cL_agree 84 = .ok (.aload_n 1, 1) := by decide +kernel
theorem dL_agree_85 : decode cL_agree 85 = .ok (.aload_n 2, 1) := by decide +kernel
theorem dL_agree_86 : decode cL_agree 86 = .ok (.aload_n 3, 1) := by decide +kernel
theorem dL_agree_87 : decode cL_agree 87 = .ok (.iload 7, 2) := by decide +kernel
theorem dL_agree_89 : decode cL_agree 89 = .ok (.iload 8, 2) := by decide +kernel
theorem dL_agree_91 : decode cL_agree 91 = .ok (.invokestatic 62, 3) := by decide +kernel
theorem dL_agree_94 : decode cL_agree 94 = .ok (.istore 10, 2) := by decide +kernel
theorem dL_agree_96 : decode cL_agree 96 = .ok (.aload_n 2, 1) := by decide +kernel
theorem dL_agree_97 : decode cL_agree 97 = .ok (.iconst 4, 1) := by decide +kernel
theorem dL_agree_98 : decode cL_agree 98 = .ok (.iload 7, 2) := by decide +kernel
theorem dL_agree_100 : decode cL_agree 100 = .ok (.imul, 1) := by decide +kernel
theorem dL_agree_101 : decode cL_agree 101 = .ok (.iconst 3, 1) := by decide +kernel
theorem dL_agree_102 : decode cL_agree 102 = .ok (.iadd, 1) := by decide +kernel
theorem dL_agree_103 : decode cL_agree 103 = .ok (.iaload, 1) := by decide +kernel
theorem dL_agree_104 : decode cL_agree 104 = .ok (.iload 8, 2) := by decide +kernel
theorem dL_agree_106 : decode cL_agree 106 = .ok (.ishr, 1) := by decide +kernel
theorem dL_agree_107 : decode cL_agree 107 = .ok (.iconst 1, 1) := by decide +kernel
theorem dL_agree_108 : decode cL_agree 108 = .ok (.iand, 1) := by decide +kernel
theorem dL_agree_109 : decode cL_agree 109 = .ok (.istore 11, 2) := by decide +kernel
theorem dL_agree_111 : decode cL_agree 111 = .ok (.iload 9, 2) := by decide +kernel
theorem dL_agree_113 : decode cL_agree 113 = .ok (.iload 10, 2) := by decide +kernel
theorem dL_agree_115 : decode cL_agree 115 = .ok (.iadd, 1) := by decide +kernel
theorem dL_agree_116 : decode cL_agree 116 = .ok (.ifCond .ne 6, 3) := by decide +kernel
theorem dL_agree_119 : decode cL_agree 119 = .ok (.iinc 4 1, 3) := by decide +kernel
theorem dL_agree_122 : decode cL_agree 122 = .ok (.iload 9, 2) := by decide +kernel
theorem dL_agree_124 : decode cL_agree 124 = .ok (.iload 10, 2) := by decide +kernel
theorem dL_agree_126 : decode cL_agree 126 = .ok (.iadd, 1) := by decide +kernel
theorem dL_agree_127 : decode cL_agree 127 = .ok (.ifCond .ne 12, 3) := by decide +kernel
theorem dL_agree_130 : decode cL_agree 130 = .ok (.iload 11, 2) := by decide +kernel
theorem dL_agree_132 : decode cL_agree 132 = .ok (.iconst 1, 1) := by decide +kernel
theorem dL_agree_133 : decode cL_agree 133 = .ok (.if_icmp .ne 6, 3) := by decide +kernel
theorem dL_agree_136 : decode cL_agree 136 = .ok (.iinc 5 1, 3) := by decide +kernel
theorem dL_agree_139 : decode cL_agree 139 = .ok (.iload 11, 2) := by decide +kernel
theorem dL_agree_141 : decode cL_agree 141 = .ok (.iconst 1, 1) := by decide +kernel
theorem dL_agree_142 : decode cL_agree 142 = .ok (.if_icmp .ne 10, 3) := by decide +kernel
theorem dL_agree_145 : decode cL_agree 145 = .ok (.iload 6, 2) := by decide +kernel
theorem dL_agree_147 : decode cL_agree 147 = .ok (.iload 9, 2) := by decide +kernel
theorem dL_agree_149 : decode cL_agree 149 = .ok (.iadd, 1) := by decide +kernel
theorem dL_agree_150 : decode cL_agree 150 = .ok (.istore 6, 2) := by decide +kernel
theorem dL_agree_152 : decode cL_agree 152 = .ok (.aload_n 0, 1) := by decide +kernel
theorem dL_agree_153 : decode cL_agree 153 = .ok (.iload 7, 2) := by decide +kernel
theorem dL_agree_155 : decode cL_agree 155 = .ok (.iload 8, 2) := by decide +kernel
theorem dL_agree_157 : decode cL_agree 157 = .ok (.iconst 0, 1) := by decide +kernel
theorem dL_agree_158 : decode cL_agree 158 = .ok (.invokevirtual 75, 3) := by decide +kernel
theorem dL_agree_161 : decode cL_agree 161 = .ok (.aload_n 2, 1) := by decide +kernel
theorem dL_agree_162 : decode cL_agree 162 = .ok (.iload 7, 2) := by decide +kernel
theorem dL_agree_164 : decode cL_agree 164 = .ok (.iload 8, 2) := by decide +kernel
theorem dL_agree_166 : decode cL_agree 166 = .ok (.invokestatic 8, 3) := by decide +kernel
theorem dL_agree_169 : decode cL_agree 169 = .ok (.if_icmp .ne 45, 3) := by decide +kernel
theorem dL_agree_172 : decode cL_agree 172 = .ok (.aload_n 0, 1) := by decide +kernel
theorem dL_agree_173 : decode cL_agree 173 = .ok (.iload 7, 2) := by decide +kernel
theorem dL_agree_175 : decode cL_agree 175 = .ok (.iload 8, 2) := by decide +kernel
theorem dL_agree_177 : decode cL_agree 177 = .ok (.iconst 1, 1) := by decide +kernel
theorem dL_agree_178 : decode cL_agree 178 = .ok (.invokevirtual 75, 3) := by decide +kernel
theorem dL_agree_181 : decode cL_agree 181 = .ok (.iload 11, 2) := by decide +kernel
theorem dL_agree_183 : decode cL_agree 183 = .ok (.if_icmp .ne 31, 3) := by decide +kernel
theorem dL_agree_186 : decode cL_agree 186 = .ok (.aload_n 0, 1) := by decide +kernel
theorem dL_agree_187 : decode cL_agree 187 = .ok (.iload 7, 2) := by decide +kernel
theorem dL_agree_189 : decode cL_agree 189 = .ok (.iload 8, 2) := by decide +kernel
theorem dL_agree_191 : decode cL_agree 191 = .ok (.iconst 2, 1) := by decide +kernel
theorem dL_agree_192 : decode cL_agree 192 = .ok (.invokevirtual 75, 3) := by decide +kernel
theorem dL_agree_195 : decode cL_agree 195 = .ok (.iload 9, 2) := by decide +kernel
theorem dL_agree_197 : decode cL_agree 197 = .ok (.if_icmp .ne 17, 3) := by decide +kernel
theorem dL_agree_200 : decode cL_agree 200 = .ok (.aload_n 0, 1) := by decide +kernel
theorem dL_agree_201 : decode cL_agree 201 = .ok (.iload 7, 2) := by decide +kernel
theorem dL_agree_203 : decode cL_agree 203 = .ok (.iload 8, 2) := by decide +kernel
theorem dL_agree_205 : decode cL_agree 205 = .ok (.iconst 3, 1) := by decide +kernel
theorem dL_agree_206 : decode cL_agree 206 = .ok (.invokevirtual 75, 3) := by decide +kernel
theorem dL_agree_209 : decode cL_agree 209 = .ok (.iload 10, 2) := by decide +kernel
theorem dL_agree_211 : decode cL_agree 211 = .ok (.if_icmp .eq 5, 3) := by decide +kernel
theorem dL_agree_214 : decode cL_agree 214 = .ok (.iconst 0, 1) := by decide +kernel
theorem dL_agree_215 : decode cL_agree 215 = .ok (.ireturn, 1) := by decide +kernel
theorem dL_agree_216 : decode cL_agree 216 = .ok (.iinc 8 1, 3) := by decide +kernel
theorem dL_agree_219 : decode cL_agree 219 = .ok (.goto (-159), 3) := by decide +kernel
theorem dL_agree_222 : decode cL_agree 222 = .ok (.iinc 7 1, 3) := by decide +kernel
theorem dL_agree_225 : decode cL_agree 225 = .ok (.goto (-213), 3) := by decide +kernel
theorem dL_agree_228 : decode cL_agree 228 = .ok (.iconst 0, 1) := by decide +kernel
theorem dL_agree_229 : decode cL_agree 229 = .ok (.istore 7, 2) := by decide +kernel
theorem dL_agree_231 : decode cL_agree 231 = .ok (.iload 7, 2) := by decide +kernel
theorem dL_agree_233 : decode cL_agree 233 = .ok (.aload_n 1, 1) := by decide +kernel
theorem dL_agree_234 : decode cL_agree 234 = .ok (.iconst 1, 1) := by decide +kernel
theorem dL_agree_235 : decode cL_agree 235 = .ok (.iaload, 1) := by decide +kernel
theorem dL_agree_236 : decode cL_agree 236 = .ok (.if_icmp .ge 46, 3) := by decide +kernel
theorem dL_agree_239 : decode cL_agree 239 = .ok (.iconst 0, 1) := by decide +kernel
theorem dL_agree_240 : decode cL_agree 240 = .ok (.istore 8, 2) := by decide +kernel
theorem dL_agree_242 : decode cL_agree 242 = .ok (.iload 8, 2) := by decide +kernel
theorem dL_agree_244 : decode cL_agree 244 = .ok (.iconst 3, 1) := by decide +kernel
theorem dL_agree_245 : decode cL_agree 245 = .ok (.if_icmp .ge 31, 3) := by decide +kernel
theorem dL_agree_248 : decode cL_agree 248 = .ok (.aload_n 0, 1) := by decide +kernel
theorem dL_agree_249 : decode cL_agree 249 = .ok (.iload 7, 2) := by decide +kernel
theorem dL_agree_251 : decode cL_agree 251 = .ok (.iload 8, 2) := by decide +kernel
theorem dL_agree_253 : decode cL_agree 253 = .ok (.invokevirtual 78, 3) := by decide +kernel
theorem dL_agree_256 : decode cL_agree 256 = .ok (.aload_n 3, 1) := by decide +kernel
theorem dL_agree_257 : decode cL_agree 257 = .ok (.iconst 3, 1) := by decide +kernel
theorem dL_agree_258 : decode cL_agree 258 = .ok (.iload 7, 2) := by decide +kernel
theorem dL_agree_260 : decode cL_agree 260 = .ok (.imul, 1) := by decide +kernel
theorem dL_agree_261 : decode cL_agree 261 = .ok (.iload 8, 2) := by decide +kernel
theorem dL_agree_263 : decode cL_agree 263 = .ok (.iadd, 1) := by decide +kernel
theorem dL_agree_264 : decode cL_agree 264 = .ok (.iaload, 1) := by decide +kernel
theorem dL_agree_265 : decode cL_agree 265 = .ok (.if_icmp .eq 5, 3) := by decide +kernel
theorem dL_agree_268 : decode cL_agree 268 = .ok (.iconst 0, 1) := by decide +kernel
theorem dL_agree_269 : decode cL_agree 269 = .ok (.ireturn, 1) := by decide +kernel
theorem dL_agree_270 : decode cL_agree 270 = .ok (.iinc 8 1, 3) := by decide +kernel
theorem dL_agree_273 : decode cL_agree 273 = .ok (.goto (-31), 3) := by decide +kernel
theorem dL_agree_276 : decode cL_agree 276 = .ok (.iinc 7 1, 3) := by decide +kernel
theorem dL_agree_279 : decode cL_agree 279 = .ok (.goto (-48), 3) := by decide +kernel
theorem dL_agree_282 : decode cL_agree 282 = .ok (.aload_n 0, 1) := by decide +kernel
theorem dL_agree_283 : decode cL_agree 283 = .ok (.iconst 0, 1) := by decide +kernel
theorem dL_agree_284 : decode cL_agree 284 = .ok (.invokevirtual 66, 3) := by decide +kernel
theorem dL_agree_287 : decode cL_agree 287 = .ok (.aload_n 1, 1) := by decide +kernel
theorem dL_agree_288 : decode cL_agree 288 = .ok (.iconst 0, 1) := by decide +kernel
theorem dL_agree_289 : decode cL_agree 289 = .ok (.iaload, 1) := by decide +kernel
theorem dL_agree_290 : decode cL_agree 290 = .ok (.if_icmp .ne 89, 3) := by decide +kernel
theorem dL_agree_293 : decode cL_agree 293 = .ok (.aload_n 0, 1) := by decide +kernel
theorem dL_agree_294 : decode cL_agree 294 = .ok (.iconst 1, 1) := by decide +kernel
theorem dL_agree_295 : decode cL_agree 295 = .ok (.invokevirtual 66, 3) := by decide +kernel
theorem dL_agree_298 : decode cL_agree 298 = .ok (.aload_n 1, 1) := by decide +kernel
theorem dL_agree_299 : decode cL_agree 299 = .ok (.iconst 1, 1) := by decide +kernel
theorem dL_agree_300 : decode cL_agree 300 = .ok (.iaload, 1) := by decide +kernel
theorem dL_agree_301 : decode cL_agree 301 = .ok (.if_icmp .ne 78, 3) := by decide +kernel
theorem dL_agree_304 : decode cL_agree 304 = .ok (.aload_n 0, 1) := by decide +kernel
theorem dL_agree_305 : decode cL_agree 305 = .ok (.iconst 2, 1) := by decide +kernel
theorem dL_agree_306 : decode cL_agree 306 = .ok (.invokevirtual 66, 3) := by decide +kernel
theorem dL_agree_309 : decode cL_agree 309 = .ok (.aload_n 1, 1) := by decide +kernel
theorem dL_agree_310 : decode cL_agree 310 = .ok (.aload_n 2, 1) := by decide +kernel
theorem dL_agree_311 : decode cL_agree 311 = .ok (.iconst 0, 1) := by decide +kernel
theorem dL_agree_312 : decode cL_agree 312 = .ok (.invokestatic 32, 3) := by decide +kernel
theorem dL_agree_315 : decode cL_agree 315 = .ok (.if_icmp .ne 64, 3) := by decide +kernel
theorem dL_agree_318 : decode cL_agree 318 = .ok (.aload_n 0, 1) := by decide +kernel
theorem dL_agree_319 : decode cL_agree 319 = .ok (.iconst 3, 1) := by decide +kernel
theorem dL_agree_320 : decode cL_agree 320 = .ok (.invokevirtual 66, 3) := by decide +kernel
theorem dL_agree_323 : decode cL_agree 323 = .ok (.aload_n 1, 1) := by decide +kernel
theorem dL_agree_324 : decode cL_agree 324 = .ok (.aload_n 2, 1) := by decide +kernel
theorem dL_agree_325 : decode cL_agree 325 = .ok (.iconst 1, 1) := by decide +kernel
theorem dL_agree_326 : decode cL_agree 326 = .ok (.invokestatic 32, 3) := by decide +kernel
theorem dL_agree_329 : decode cL_agree 329 = .ok (.if_icmp .ne 50, 3) := by decide +kernel
theorem dL_agree_332 : decode cL_agree 332 = .ok (.aload_n 0, 1) := by decide +kernel
theorem dL_agree_333 : decode cL_agree 333 = .ok (.iconst 4, 1) := by decide +kernel
theorem dL_agree_334 : decode cL_agree 334 = .ok (.invokevirtual 66, 3) := by decide +kernel
theorem dL_agree_337 : decode cL_agree 337 = .ok (.iload 4, 2) := by decide +kernel
theorem dL_agree_339 : decode cL_agree 339 = .ok (.if_icmp .ne 40, 3) := by decide +kernel
theorem dL_agree_342 : decode cL_agree 342 = .ok (.aload_n 0, 1) := by decide +kernel
theorem dL_agree_343 : decode cL_agree 343 = .ok (.iconst 5, 1) := by decide +kernel
theorem dL_agree_344 : decode cL_agree 344 = .ok (.invokevirtual 66, 3) := by decide +kernel
theorem dL_agree_347 : decode cL_agree 347 = .ok (.iload 5, 2) := by decide +kernel
theorem dL_agree_349 : decode cL_agree 349 = .ok (.if_icmp .ne 30, 3) := by decide +kernel
theorem dL_agree_352 : decode cL_agree 352 = .ok (.aload_n 0, 1) := by decide +kernel
theorem dL_agree_353 : decode cL_agree 353 = .ok (.bipush 6, 2) := by decide +kernel
theorem dL_agree_355 : decode cL_agree 355 = .ok (.invokevirtual 66, 3) := by decide +kernel
theorem dL_agree_358 : decode cL_agree 358 = .ok (.iload 6, 2) := by decide +kernel
theorem dL_agree_360 : decode cL_agree 360 = .ok (.if_icmp .ne 19, 3) := by decide +kernel
theorem dL_agree_363 : decode cL_agree 363 = .ok (.aload_n 0, 1) := by decide +kernel
theorem dL_agree_364 : decode cL_agree 364 = .ok (.bipush 8, 2) := by decide +kernel
theorem dL_agree_366 : decode cL_agree 366 = .ok (.invokevirtual 66, 3) := by decide +kernel
theorem dL_agree_369 : decode cL_agree 369 = .ok (.aload_n 1, 1) := by decide +kernel
theorem dL_agree_370 : decode cL_agree 370 = .ok (.iconst 2, 1) := by decide +kernel
theorem dL_agree_371 : decode cL_agree 371 = .ok (.iaload, 1) := by decide +kernel
theorem dL_agree_372 : decode cL_agree 372 = .ok (.if_icmp .ne 7, 3) := by decide +kernel
theorem dL_agree_375 : decode cL_agree 375 = .ok (.iconst 1, 1) := by decide +kernel
theorem dL_agree_376 : decode cL_agree 376 = .ok (.goto 4, 3) := by decide +kernel
theorem dL_agree_379 : decode cL_agree 379 = .ok (.iconst 0, 1) := by decide +kernel
theorem dL_agree_380 : decode cL_agree 380 = .ok (.ireturn, 1) := by decide +kernel
set_option maxRecDepth 20000 in
theorem ggL_law_X4_init : GoodIn wsL_law wsX4_init := goodIn_r _ [6, 7, 8, 9, 10, 11, 12, 13, 14, 15, 16, 17, 18, 19, 20, 21, 22, 23, 24, 25, 26, 27, 28, 29, 30, 31, 3, 32, 33, 34, 35, 36, 37, 38, 39, 40, 41, 42, 43, 44, 45, 46, 47, 48, 49, 50, 51, 52, 53, 54, 55, 56, 57, 408, 409, 410, 411, 412, 403, 404, 405, 406, 407, 413, 414, 415, 416, 417, 418, 419, 420, 421, 422, 423, 424, 425, 426, 427, 428, 429] (by decide +kernel) (by decide +kernel)
set_option maxRecDepth 20000 in
theorem gL_law_X4_init : GoodIn wsL_law (wsX4_init) := ggL_law_X4_init
set_option maxRecDepth 20000 in
theorem ggL_law_L_cell : GoodIn wsL_law wsL_cell := goodIn_r _ [61, 62] (by decide +kernel) (by decide +kernel)
set_option maxRecDepth 20000 in
theorem gL_law_L_cell : GoodIn wsL_law (va_wsS RL 82 yL_cell wsL_cell) := goodIn_app (goodIn_of _ (by decide +kernel)) ggL_law_L_cell
set_option maxRecDepth 20000 in
theorem ggL_law_L_at : GoodIn wsL_law wsL_at := goodIn_r _ [65] (by decide +kernel) (by decide +kernel)
set_option maxRecDepth 20000 in
theorem gL_law_L_at : GoodIn wsL_law (va_wsS RL 18 yL_at wsL_at) := goodIn_app (goodIn_of _ (by decide +kernel)) ggL_law_L_at
set_option maxRecDepth 20000 in
theorem ggL_law_L_builds : GoodIn wsL_law wsL_builds := goodIn_ca (goodIn_ca (goodIn_ca (goodIn_cons (List.mem_of_getElem? (i := 68) rfl) rfl (goodIn_r _ [63, 64, 60, 65, 69, 70, 71, 2, 72, 73, 74, 75, 76, 15, 77, 78, 79, 80, 81, 82, 30, 83, 84, 38, 85, 86, 87, 88, 20, 13, 89, 90, 91, 19, 92, 93, 51, 94, 95, 96, 97, 98, 99, 100, 101, 102, 103, 104, 105, 39, 40, 41, 106, 42, 43, 44, 45, 107, 108, 109, 12, 110, 111, 112, 113, 114, 115, 116, 117, 118, 119, 120, 121, 122, 123, 124, 125, 126, 127, 128, 129, 130, 131, 132, 133, 134, 135, 136, 137, 138, 139, 140, 141, 142, 143, 144, 145, 146, 147, 148, 149, 150, 151, 152, 153, 154, 155, 156, 157, 158, 159, 160, 161, 162, 163, 164, 165, 166, 167, 168, 169, 170, 171, 172, 173, 174, 175, 176, 177, 403, 404, 405, 406, 407, 420, 421, 422, 423, 424, 425, 426, 427, 428, 429, 413, 414, 408, 409, 410, 411, 412] (by decide +kernel) (by decide +kernel))) (goodIn_sub (fun _ h => List.mem_append_left _ (List.mem_append_left _ (List.mem_append_right _ h))) (by decide +kernel))) (goodIn_sub (fun _ h => List.mem_append_left _ (List.mem_append_right _ h)) (by decide +kernel))) (goodIn_sub (fun _ h => List.mem_append_right _ h) (by decide +kernel))
set_option maxRecDepth 20000 in
theorem gL_law_L_builds : GoodIn wsL_law (va_wsS RL 86 yL_builds wsL_builds) := goodIn_app (goodIn_of _ (by decide +kernel)) ggL_law_L_builds
set_option maxRecDepth 20000 in
theorem ggL_law_L_sits : GoodIn wsL_law wsL_sits := goodIn_ca (goodIn_ca (goodIn_ca (goodIn_cons (List.mem_of_getElem? (i := 180) rfl) rfl (goodIn_r _ [63, 64, 60, 65, 181, 182, 183, 2, 184, 75, 76, 15, 185, 186, 187, 188, 128, 129, 189, 124, 125, 126, 127, 130, 190, 191, 192, 30, 193, 41, 85, 86, 87, 88, 20, 13, 89, 90, 91, 19, 92, 93, 51, 94, 95, 96, 97, 98, 99, 100, 101, 84, 38, 102, 103, 104, 105, 39, 40, 106, 42, 43, 44, 45, 107, 108, 109, 12, 110, 111, 194, 195, 196, 197, 198, 199, 200, 201, 202, 203, 204, 205, 206, 207, 208, 209, 210, 211, 212, 213, 214, 215, 139, 140, 141, 216, 217, 218, 219, 220, 221, 222, 223, 224, 225, 226, 227, 228, 229, 230, 231, 232, 233, 234, 235, 236, 237, 238, 239, 240, 241, 242, 243, 244, 245, 246, 247, 248, 249, 250, 251, 252, 253, 254, 255, 256, 257, 258, 259, 260, 261, 262, 263, 264, 265, 266, 267, 268, 269, 270, 271, 272, 273, 274, 275, 73, 74, 276, 277, 278, 279, 31, 280, 281, 32, 33, 34, 282, 283, 284, 285, 286, 287, 288, 289, 290, 291, 292, 293, 294, 295, 296, 297, 298, 299, 300, 301, 302, 303, 304, 305, 306, 307, 146, 308, 135, 136, 137, 138, 309, 310, 311, 312, 313, 314, 315, 316, 317, 318, 319, 320, 321, 322, 323, 324, 325, 326, 327, 328, 329, 330, 331, 332, 333, 334, 335, 336, 337, 338, 339, 340, 341, 342, 343, 344, 345, 346, 347, 348, 349, 350, 351, 352, 403, 404, 405, 406, 407, 420, 421, 422, 423, 424, 425, 426, 427, 428, 429, 413, 414, 408, 409, 410, 411, 412] (by decide +kernel) (by decide +kernel))) (goodIn_sub (fun _ h => List.mem_append_left _ (List.mem_append_right _ h)) (by decide +kernel))) (goodIn_sub (fun _ h => List.mem_append_right _ h) (by decide +kernel))) (goodIn_sub (fun _ h => List.mem_append_left _ (List.mem_append_left _ (List.mem_append_right _ h))) (by decide +kernel))
set_option maxRecDepth 20000 in
theorem gL_law_L_sits : GoodIn wsL_law (va_wsS RL 90 yL_sits wsL_sits) := goodIn_app (goodIn_of _ (by decide +kernel)) ggL_law_L_sits
set_option maxRecDepth 20000 in
theorem ggL_law_L_agree : GoodIn wsL_law wsL_agree := goodIn_ca (goodIn_ca (goodIn_cons (List.mem_of_getElem? (i := 355) rfl) rfl (goodIn_r _ [356, 357, 358, 2, 359, 13, 124, 125, 126, 127, 128, 129, 15, 130, 273, 274, 275, 73, 74, 276, 277, 278, 12, 279, 111, 31, 280, 281, 32, 33, 34, 282, 283, 284, 285, 225, 226, 30, 227, 40, 228, 191, 192, 193, 41, 229, 230, 231, 232, 38, 233, 234, 235, 236, 237, 238, 239, 240, 241, 242, 243, 244, 39, 45, 245, 246, 247, 248, 286, 287, 288, 289, 106, 290, 291, 292, 293, 42, 43, 44, 294, 295, 296, 297, 298, 299, 300, 301, 302, 303, 360, 361, 362, 363, 364, 167, 189, 365, 206, 207, 208, 209, 210, 211, 212, 213, 214, 215, 366, 314, 315, 316, 317, 318, 319, 320, 249, 250, 60, 251, 252, 253, 254, 255, 256, 257, 266, 267, 268, 367, 368, 369, 370, 185, 186, 187, 188, 371, 372, 373, 374, 375, 376, 377, 190, 378, 379, 380, 381, 382, 383, 84, 384, 385, 386, 387, 325, 388, 389, 390, 391, 147, 148, 149, 150, 146, 392, 393, 394, 395, 396, 397, 398, 399, 400, 401, 402, 269, 270, 271, 272, 304, 305, 306, 307, 20, 308, 135, 136, 137, 138, 201, 202, 203, 204, 205, 309, 310, 311, 312, 313, 321, 322, 323, 324, 326, 327, 328, 329, 330, 331, 332, 333, 334, 335, 336, 139, 140, 141, 403, 404, 405, 406, 407, 420, 421, 422, 423, 424, 425, 426, 427, 428, 429, 408, 409, 410, 411, 412, 413, 414] (by decide +kernel) (by decide +kernel))) (goodIn_sub (fun _ h => List.mem_append_right _ h) (by decide +kernel))) (goodIn_sub (fun _ h => List.mem_append_left _ (List.mem_append_left _ (List.mem_append_right _ h))) (by decide +kernel))
set_option maxRecDepth 20000 in
theorem gL_law_L_agree : GoodIn wsL_law (va_wsS RL 93 yL_agree wsL_agree) := goodIn_app (goodIn_of _ (by decide +kernel)) ggL_law_L_agree
theorem dL_law_0 : decode cL_law 0 = .ok (.new 23, 3) := by decide +kernel
theorem dL_law_3 : decode cL_law 3 = .ok (.dup, 1) := by decide +kernel
theorem dL_law_4 : decode cL_law 4 = .ok (.invokespecial 81, 3) := by decide +kernel
theorem dL_law_7 : decode cL_law 7 = .ok (.astore_n 1, 1) := by decide +kernel
theorem dL_law_8 : decode cL_law 8 = .ok (.bipush 6, 2) := by decide +kernel
theorem dL_law_10 : decode cL_law 10 = .ok (.newarray .int, 2) := by decide +kernel
theorem dL_law_12 : decode cL_law 12 = .ok (.astore_n 2, 1) := by decide +kernel
theorem dL_law_13 : decode cL_law 13 = .ok (.bipush 28, 2) := by decide +kernel
theorem dL_law_15 : decode cL_law 15 = .ok (.newarray .int, 2) := by decide +kernel
theorem dL_law_17 : decode cL_law 17 = .ok (.astore_n 3, 1) := by decide +kernel
theorem dL_law_18 : decode cL_law 18 = .ok (.bipush 15, 2) := by decide +kernel
theorem dL_law_20 : decode cL_law 20 = .ok (.newarray .int, 2) := by decide +kernel
theorem dL_law_22 : decode cL_law 22 = .ok (.astore 4, 2) := by decide +kernel
theorem dL_law_24 : decode cL_law 24 = .ok (.aload_n 2, 1) := by decide +kernel
theorem dL_law_25 : decode cL_law 25 = .ok (.iconst 3, 1) := by decide +kernel
theorem dL_law_26 : decode cL_law 26 = .ok (.bipush 100, 2) := by decide +kernel
theorem dL_law_28 : decode cL_law 28 = .ok (.iastore, 1) := by decide +kernel
theorem dL_law_29 : decode cL_law 29 = .ok (.aload_n 2, 1) := by decide +kernel
theorem dL_law_30 : decode cL_law 30 = .ok (.iconst 4, 1) := by decide +kernel
theorem dL_law_31 : decode cL_law 31 = .ok (.bipush 120, 2) := by decide +kernel
theorem dL_law_33 : decode cL_law 33 = .ok (.iastore, 1) := by decide +kernel
theorem dL_law_34 : decode cL_law 34 = .ok (.aload_n 2, 1) := by decide +kernel
theorem dL_law_35 : decode cL_law 35 = .ok (.iconst 5, 1) := by decide +kernel
theorem dL_law_36 : decode cL_law 36 = .ok (.bipush 12, 2) := by decide +kernel
theorem dL_law_38 : decode cL_law 38 = .ok (.iastore, 1) := by decide +kernel
theorem dL_law_39 : decode cL_law 39 = .ok (.iconst 0, 1) := by decide +kernel
theorem dL_law_40 : decode cL_law 40 = .ok (.istore 5, 2) := by decide +kernel
theorem dL_law_42 : decode cL_law 42 = .ok (.iload 5, 2) := by decide +kernel
theorem dL_law_44 : decode cL_law 44 = .ok (.bipush 50, 2) := by decide +kernel
theorem dL_law_46 : decode cL_law 46 = .ok (.if_icmp .ge 97, 3) := by decide +kernel
theorem dL_law_49 : decode cL_law 49 = .ok (.aload_n 0, 1) := by decide +kernel
theorem dL_law_50 : decode cL_law 50 = .ok (.iconst 2, 1) := by decide +kernel
theorem dL_law_51 : decode cL_law 51 = .ok (.iload 5, 2) := by decide +kernel
theorem dL_law_53 : decode cL_law 53 = .ok (.imul, 1) := by decide +kernel
theorem dL_law_54 : decode cL_law 54 = .ok (.invokestatic 82, 3) := by decide +kernel
theorem dL_law_57 : decode cL_law 57 = .ok (.istore 6, 2) := by decide +kernel
theorem dL_law_59 : decode cL_law 59 = .ok (.aload_n 0, 1) := by decide +kernel
theorem dL_law_60 : decode cL_law 60 = .ok (.iconst 2, 1) := by decide +kernel
theorem dL_law_61 : decode cL_law 61 = .ok (.iload 5, 2) := by decide +kernel
theorem dL_law_63 : decode cL_law 63 = .ok (.imul, 1) := by decide +kernel
theorem dL_law_64 : decode cL_law 64 = .ok (.iconst 1, 1) := by decide +kernel
theorem dL_law_65 : decode cL_law 65 = .ok (.iadd, 1) := by decide +kernel
theorem dL_law_66 : decode cL_law 66 = .ok (.invokestatic 82, 3) := by decide +kernel
theorem dL_law_69 : decode cL_law 69 = .ok (.istore 7, 2) := by decide +kernel
theorem dL_law_71 : decode cL_law 71 = .ok (.aload_n 2, 1) := by decide +kernel
theorem dL_law_72 : decode cL_law 72 = .ok (.iconst 0, 1) := by decide +kernel
theorem dL_law_73 : decode cL_law 73 = .ok (.iaload, 1) := by decide +kernel
theorem dL_law_74 : decode cL_law 74 = .ok (.ifCond .eq 17, 3) := by decide +kernel
theorem dL_law_77 : decode cL_law 77 = .ok (.iload 6, 2) := by decide +kernel
theorem dL_law_79 : decode cL_law 79 = .ok (.bipush 20, 2) := by decide +kernel
theorem dL_law_81 : decode cL_law 81 = .ok (.ishr, 1) := by decide +kernel
theorem dL_law_82 : decode cL_law 82 = .ok (.bipush 10, 2) := by decide +kernel
theorem dL_law_84 : decode cL_law 84 = .ok (.invokestatic 18, 3) := by decide +kernel
theorem dL_law_87 : decode cL_law 87 = .ok (.iconst 4, 1) := by decide +kernel
theorem dL_law_88 : decode cL_law 88 = .ok (.if_icmp .ge 21, 3) := by decide +kernel
theorem dL_law_91 : decode cL_law 91 = .ok (.aload_n 1, 1) := by decide +kernel
theorem dL_law_92 : decode cL_law 92 = .ok (.iload 6, 2) := by decide +kernel
theorem dL_law_94 : decode cL_law 94 = .ok (.iload 7, 2) := by decide +kernel
theorem dL_law_96 : decode cL_law 96 = .ok (.aload_n 2, 1) := by decide +kernel
theorem dL_law_97 : decode cL_law 97 = .ok (.aload_n 3, 1) := by decide +kernel
theorem dL_law_98 : decode cL_law 98 = .ok (.aload 4, 2) := by decide +kernel
theorem dL_law_100 : decode cL_law 100 = .ok (.invokestatic 86, 3) := by decide +kernel
theorem dL_law_103 : decode cL_law 103 = .ok (.ifCond .eq 32, 3) := by decide +kernel
theorem dL_law_106 : decode cL_law 106 = .ok (.goto 18, 3) := by decide +kernel
theorem dL_law_109 : decode cL_law 109 = .ok (.aload_n 1, 1) := by decide +kernel
theorem dL_law_110 : decode cL_law 110 = .ok (.iload 6, 2) := by decide +kernel
theorem dL_law_112 : decode cL_law 112 = .ok (.iload 7, 2) := by decide +kernel
theorem dL_law_114 : decode cL_law 114 = .ok (.aload_n 2, 1) := by decide +kernel
theorem dL_law_115 : decode cL_law 115 = .ok (.aload_n 3, 1) := by decide +kernel
theorem dL_law_116 : decode cL_law 116 = .ok (.aload 4, 2) := by decide +kernel
theorem dL_law_118 : decode cL_law 118 = .ok (.invokestatic 90, 3) := by decide +kernel
theorem dL_law_121 : decode cL_law 121 = .ok (.ifCond .eq 14, 3) := by decide +kernel
theorem dL_law_124 : decode cL_law 124 = .ok (.aload_n 1, 1) := by decide +kernel
theorem dL_law_125 : decode cL_law 125 = .ok (.aload_n 2, 1) := by decide +kernel
theorem dL_law_126 : decode cL_law 126 = .ok (.aload_n 3, 1) := by decide +kernel
theorem dL_law_127 : decode cL_law 127 = .ok (.aload 4, 2) := by decide +kernel
theorem dL_law_129 : decode cL_law 129 = .ok (.invokestatic 93, 3) := by decide +kernel
theorem dL_law_132 : decode cL_law 132 = .ok (.ifCond .ne 5, 3) := by decide +kernel
theorem dL_law_135 : decode cL_law 135 = .ok (.iconst 0, 1) := by decide +kernel
theorem dL_law_136 : decode cL_law 136 = .ok (.ireturn, 1) := by decide +kernel
theorem dL_law_137 : decode cL_law 137 = .ok (.iinc 5 1, 3) := by decide +kernel
theorem dL_law_140 : decode cL_law 140 = .ok (.goto (-98), 3) := by decide +kernel
theorem dL_law_143 : decode cL_law 143 = .ok (.iconst 1, 1) := by decide +kernel
theorem dL_law_144 : decode cL_law 144 = .ok (.ireturn, 1) := by decide +kernel
end
section
/-! constructors: what they want of the start, what they leave -/
def xN (U : State) : Prop := va_AO RX0 U ∧ va_Nw (.methodLinkNest RX4 9 yX3_init RX4) U ∧ va_Nw (.methodLinkNest RX1 17 yX0_init RX4) U ∧ va_Nw (.methodLinkNest RX3 11 yX0_init RX4) U ∧ va_Nw (.methodLinkNest RX4 33 yX2_init RX4) U
theorem xN.warm {s U : State} (hW : s.WarmedH U.vm) (h : xN s) : xN U := ⟨va_AO.moved hW.alike h.1, va_Nw.warmM hW h.2.1, va_Nw.warmM hW h.2.2.1, va_Nw.warmM hW h.2.2.2.1, va_Nw.warmM hW h.2.2.2.2⟩
def kcp (av : List Value) (D : va_G) (ws : va_W) (tys : List (ClassId × FieldType)) (sz : Nat) : Array Value → State → Prop := fun v U => v = av.toArray ∧ U.heap.size = sz ∧ va_P D vwCl ws U.heap ∧ va_K D vwCl tys U ∧ va_D (fun _ => True) ws ∧ xN U
def kcq (D : va_G) (A : Nat → Prop) (B : va_W → Prop) : Array Value → State → Outcome → State → Prop := fun _ st oc t => oc = .returned none ∧ ∃ w1 : va_W, B w1 ∧ va_P D vwCl w1 t.heap ∧ va_D A w1 ∧ va_F A st t
theorem kcp_blind {av : List Value} {D : va_G} {ws : va_W} {tys : List (ClassId × FieldType)} {sz : Nat} : FrameBlind (kcp av D ws tys sz) := fun a U g mk q => by
  obtain ⟨q0, q1, qP, qK, qD, qN⟩ := q
  exact ⟨q0, q1, qP, va_K.moved (u := U) (U := U.calling g mk a) (Vm.Alike.refl U.vm) qK, qD, xN.warm (s := U) (U := U.calling g mk a) (State.WarmedH.refl U) qN⟩
section KCC
variable {p : Program} {l : Launch} {e : Env} {R : Room} {s : State} {m : MethodId} {args : Array Value} {below : List Frame} {meth : Method} {c : Code} {H H0 : Heap} {locs : List Loc} {cells slots : Nat} {Q : State → Prop}
variable {cc : ByteArray} {pc : Nat} {ls : Array Slot} {rest : List Value} {D : va_G} {ws : va_W} {A : Nat → Prop}
variable {y : MethodName} {bytes : ByteArray} {maxL nL n index mc ms : Nat} {wds : List Cond} {rm : Room} {Ts : List Cond} {own host : String} {b : Addr} {As st0 : List Value} {wc wr : va_W} {tc : List (ClassId × FieldType)} {Bq : va_W → Prop} {a9 : Array Value}
theorem kc_run (hrun : va_Run p l e R s m args below meth c H locs cells slots mc ms (F0 m pc ls st0) rest (kcq D (va_A wc H.size) Bq a9) (va_A wc H.size)) (hP : va_P D vwCl ws H) (hD : va_D A ws) (hS : va_S A H0 H locs) (hA : ∀ q, H0.size ≤ q → A q) (isC isR : List Nat)
    (hC : isC.map (fun i => ws[i]?) = wc.map some) (hR : isR.map (fun i => ws[i]?) = wr.map some) (hnR : va_nd isR = true) (hdis : ∀ i ∈ isR, i ∉ isC)
    (kk : ∀ (w1 : va_W) (H1 : Heap) (locs1 : List Loc), Bq w1 → va_P D vwCl (wr ++ w1) H1 → va_D A (wr ++ w1) → va_S A H0 H1 locs1 → W p l e R s m args below meth c H1 locs1 (cells + mc) (slots + ms) Q (F0 m (pc + 3) ls rest)) : W p l e R s m args below meth c H locs cells slots Q (F0 m pc ls st0) := by
  intro T hT X
  obtain ⟨v', st₀, t, T', L, h0, X', hL, e1, -, ⟨hv, w1, hB, hP1, hD1, hF1, hF2⟩, st⟩ := hrun T hT X
  cases hv
  rw [h0] at hF1 hF2
  have hFr := va_free hD hS hA isC hC
  obtain ⟨g1, g2⟩ := va_join hP hD isC isR hC hR hnR hdis hF2 hFr hP1 hD1
  obtain ⟨t2, a1, b1⟩ := kk w1 t.heap (locs ++ L) hB g1 g2 ⟨Nat.le_trans hS.1 hF1, fun q h1 h2 => (hF2 q (Nat.lt_of_lt_of_le h1 hS.1) (fun z => h2 (hFr q z))).trans (hS.2.1 q h1 h2), fun x hx => (List.mem_append.mp hx).elim (hS.2.2 x) (fun h => hFr _ (hL x h))⟩ T' e1 X'
  exact ⟨t2, st t2 a1, b1⟩
theorem kc_I (S : CallFix p m c cc nL s args Ts own) (hM : Met l y wds rm (kcp (.ref b :: As) D wc tc H.size) (kcq D (va_A wc H.size) Bq) mc ms (va_A wc H.size)) (cw : CallB R s args own index y bytes maxL none wds rm mc ms n ∧ y.name = "<init>" ∧ (Cond.instanceMethod y).before args s = true) (hP : va_P D vwCl ws H) (hD : va_D A ws) (hK : va_K D vwCl tc s) (hN : xN s) (hS : va_S A H0 H locs) (hA : ∀ q, H0.size ≤ q → A q) (isC isR : List Nat)
    (hC0 : isC.filterMap (fun i => ws[i]?) = wc) (hC : isC.map (fun i => ws[i]?) = wc.map some) (hR : isR.map (fun i => ws[i]?) = wr.map some) (hnC : va_nd isC = true) (hnR : va_nd isR = true) (hdis : ∀ i ∈ isR, i ∉ isC)
    (hn : As.length = n) (hz : ls.size = nL) (hst : st0 = As.reverse ++ .ref b :: rest) (hW : (rest.map fun v => v.category).sum ≤ 8) (hdg : decode cc pc = .ok (.invokespecial index, 3)) (hf : cells + mc ≤ R.cells ∧ slots + ms ≤ R.slots)
    (kk : ∀ (w1 : va_W) (H1 : Heap) (locs1 : List Loc), Bq w1 → va_P D vwCl (wr ++ w1) H1 → va_D A (wr ++ w1) → va_S A H0 H1 locs1 → W p l e R s m args below meth c H1 locs1 (cells + mc) (slots + ms) Q (F0 m (pc + 3) ls rest)) : W p l e R s m args below meth c H locs cells slots Q (F0 m pc ls st0) :=
  kc_run (a9 := (Value.ref b :: As).toArray) (va_runI (H := H) (below := below) (meth := meth) (e := e) (locs := locs) (cells := cells) (slots := slots) (g := F0 m pc ls st0) (rest := rest) S hM cw ⟨kcp_blind, fun U hU hWm => ⟨rfl, by rw [hU], by rw [hU]; exact hP.sub isC hC0, va_K.moved hWm.alike hK, (hD.sub isC hnC hC).weaken (fun _ _ _ _ => trivial), hN.warm hWm⟩⟩ rfl hn hz hst (lv_room hW) hdg hf) hP hD hS hA isC isR hC hR hnR hdis kk
theorem kc_IN (S : CallFix p m c cc nL s args Ts own) (hM : Met l y wds rm (kcp (.ref b :: As) D wc tc H.size) (kcq D (va_A wc H.size) Bq) mc ms (va_A wc H.size)) (cw : va_CN R s args own index y host bytes maxL none wds rm mc ms n ∧ y.name = "<init>" ∧ (Cond.instanceMethod y).before args s = true) (hP : va_P D vwCl ws H) (hD : va_D A ws) (hK : va_K D vwCl tc s) (hN : xN s) (hS : va_S A H0 H locs) (hA : ∀ q, H0.size ≤ q → A q) (isC isR : List Nat)
    (hC0 : isC.filterMap (fun i => ws[i]?) = wc) (hC : isC.map (fun i => ws[i]?) = wc.map some) (hR : isR.map (fun i => ws[i]?) = wr.map some) (hnC : va_nd isC = true) (hnR : va_nd isR = true) (hdis : ∀ i ∈ isR, i ∉ isC)
    (hn : As.length = n) (hz : ls.size = nL) (hst : st0 = As.reverse ++ .ref b :: rest) (hW : (rest.map fun v => v.category).sum ≤ 8) (hdg : decode cc pc = .ok (.invokespecial index, 3)) (hf : cells + mc ≤ R.cells ∧ slots + ms ≤ R.slots)
    (kk : ∀ (w1 : va_W) (H1 : Heap) (locs1 : List Loc), Bq w1 → va_P D vwCl (wr ++ w1) H1 → va_D A (wr ++ w1) → va_S A H0 H1 locs1 → W p l e R s m args below meth c H1 locs1 (cells + mc) (slots + ms) Q (F0 m (pc + 3) ls rest)) : W p l e R s m args below meth c H locs cells slots Q (F0 m pc ls st0) :=
  kc_run (a9 := (Value.ref b :: As).toArray) (va_runIN (H := H) (below := below) (meth := meth) (e := e) (locs := locs) (cells := cells) (slots := slots) (g := F0 m pc ls st0) (rest := rest) S hM cw ⟨kcp_blind, fun U hU hWm => ⟨rfl, by rw [hU], by rw [hU]; exact hP.sub isC hC0, va_K.moved hWm.alike hK, (hD.sub isC hnC hC).weaken (fun _ _ _ _ => trivial), hN.warm hWm⟩⟩ rfl hn hz hst (lv_room hW) hdg hf) hP hD hS hA isC isR hC hR hnR hdis kk
variable {cl : List vw_C} {tys : List (ClassId × FieldType)}
/-- a new array of numbers, of the class that is known -/
theorem kx_newa (hexec : p.tables.exec = Jvm.exec) (hb : c.code = cc) {atype : ArrayType} (harr : (Cond.arrayClass (newarray.typeOf atype)).before args s = true) {ty : FieldType} (hty : newarray.typeOf atype = ty) (hK : va_K D cl tys s) (hP : va_P D cl ws H) (hD : va_D A ws) (hS : va_S A H0 H locs) (hA : ∀ q, H0.size ≤ q → A q)
    (t0 : Nat) {cA : ClassId} (ht : tys[t0]? = some (cA, ty)) (hRA : va_RA s cA ty → s.vm.findClass ("[" ++ ty.toString) = some cA) {n : Int32} {N' : Nat} {a0 : vp_A} (ha : vp_cell cA a0 = arrV cA N' (fun _ => defaultValue ty)) (hn : ¬ n < 0) (hN : n.toNatClampNeg = N') (hbytes : N' * componentBytes ty ≤ 536870912) (hcells : cells + 1 ≤ R.cells) (hslots : slots + N' ≤ R.slots) (hdg : decode cc pc = .ok (.newarray atype, 2))
    (kk : ∀ (q : Nat) (H1 : Heap), va_P D cl (ws ++ [(q, .inl (cA, a0))]) H1 → va_D A (ws ++ [(q, .inl (cA, a0))]) → va_S A H0 H1 locs →
      W p l e R s m args below meth c H1 locs (cells + 1) (slots + N') Q (F0 m (pc + 2) ls (.ref q :: rest))) : W p l e R s m args below meth c H locs cells slots Q (F0 m pc ls (.int n :: rest)) := by
  subst hty
  refine va_newaK hexec hb harr rfl hdg rfl hn hN hbytes hcells hslots rfl fun H1 cA' e1 z1 o1 hAr hNm => ?_
  have hcc : cA' = cA := Option.some.inj (hNm.symm.trans (hRA (hK.2 t0 _ ht).2))
  subst hcc
  have hk : ∀ (k : Nat) (x : Nat × va_E), ws[k]? = some x → H1[x.1]? = H[x.1]? := fun k x hx => o1 x.1 ((hP k x hx).lt)
  refine kk H.size H1 ((hP.kept hk).app (fun k x hx => ?_)) (hD.push hP rfl (hA _ hS.1)) ⟨Nat.le_trans hS.1 (by omega), fun x h1 h2 => (o1 x (Nat.lt_of_lt_of_le h1 hS.1)).trans (hS.2.1 x h1 h2), hS.2.2⟩
  have hz : k < 1 := (List.getElem?_eq_some_iff.mp hx).1
  rw [show k = 0 by omega] at hx
  cases hx
  show H1[H.size]? = some (vp_cell _ _)
  rw [ha]
  exact e1
/-- a new array of references, of the class that is known -/
theorem kx_newq (hexec : p.tables.exec = Jvm.exec) (hb : c.code = cc) {C : String} (hown : s.vm.findClass own = some m.cls) (hclink : (Cond.classLink own index C).before args s = true) (hover : va_AO C s) (hK : va_K D cl tys s) (hP : va_P D cl ws H) (hD : va_D A ws) (hS : va_S A H0 H locs) (hA : ∀ q, H0.size ≤ q → A q)
    (t0 : Nat) {cA : ClassId} (ht : tys[t0]? = some (cA, .object C)) {n : Int32} {N' : Nat} (hn : ¬ n < 0) (hN : n.toNatClampNeg = N') (hbytes : N' * 4 ≤ 536870912) (hcells : cells + 1 ≤ R.cells) (hslots : slots + N' ≤ R.slots) (hdg : decode cc pc = .ok (.anewarray index, 3))
    (kk : ∀ (q : Nat) (H1 : Heap), va_P D cl (ws ++ [(q, .inl (cA, N', .inr (.inr (.inr (.inr (fun _ => none))))))]) H1 → va_D A (ws ++ [(q, .inl (cA, N', .inr (.inr (.inr (.inr (fun _ => none))))))]) → va_S A H0 H1 locs →
      W p l e R s m args below meth c H1 locs (cells + 1) (slots + N') Q (F0 m (pc + 3) ls (.ref q :: rest))) : W p l e R s m args below meth c H locs cells slots Q (F0 m pc ls (.int n :: rest)) := by
  refine va_newq hexec hb hown hclink hover hK hP hD hS hA hn hN hbytes hcells hslots hdg fun q cA' H1 hK1 hP1 hD1 hS1 => ?_
  have h1 := (hK1.2 tys.length (cA', .object C) (by rw [List.getElem?_append_right (Nat.le_refl _), Nat.sub_self]; rfl)).2
  have h2 := (hK.2 t0 _ ht).2
  obtain ⟨_, _, -, -, -, f1⟩ := h1
  obtain ⟨_, _, -, -, -, f2⟩ := h2
  have hcc : cA' = cA := Option.some.inj (f1.symm.trans f2)
  subst hcc
  exact kk q H1 hP1 hD1 hS1
end KCC
def z00 : ZZ := fun j => if j = 0 then nI 100 else if j = 1 then nI 120 else if j = 2 then nI 12 else nI 0
def zz0 : ZZ := fun _ => 0
theorem z00_u (j : Nat) : upd (upd (upd zz0 0 (nI 100)) 1 (nI 120)) 2 (nI 12) j = z00 j := by
  rcases Nat.lt_or_ge j 3 with h | h
  · rcases (show j = 0 ∨ j = 1 ∨ j = 2 by omega) with rfl | rfl | rfl <;> rfl
  · rw [upd_ne (by omega), upd_ne (by omega), upd_ne (by omega)]
    unfold z00
    rw [if_neg (by omega), if_neg (by omega), if_neg (by omega)]; rfl
end
section
/-! how the law's methods are called, how they end -/
section JL
variable {p : Program} {l : Launch} {e : Env} {R : Room} {s : State} {m : MethodId} {args : Array Value} {below : List Frame} {meth : Method} {c : Code} {H H0 : Heap} {locs : List Loc} {cells slots : Nat} {Q : State → Prop}
variable {cc : ByteArray} {pc : Nat} {ls : Array Slot} {rest : List Value} {D : va_G} {cl : List vw_C} {ws : va_W} {tys : List (ClassId × FieldType)} {A : Nat → Prop}
variable {y : MethodName} {bytes : ByteArray} {maxL nL n index : Nat} {ret : Option FieldType} {wds : List Cond} {rm : Room} {Ts : List Cond} {own : String} {b : Addr} {As st0 : List Value} {tc : List (ClassId × FieldType)} {v : Option Value} {zy : Nat → Nat}
def lcI (x y : Int64) : Int32 := if x > y then 1 else if x == y then 0 else -1
theorem kx_lcmp (hexec : p.tables.exec = Jvm.exec) (hb : c.code = cc) {x y : Int64} (hdg : decode cc pc = .ok (.lcmp, 1))
    (k : W p l e R s m args below meth c H locs cells slots Q (F0 m (pc + 1) ls (.int (lcI x y) :: rest))) : W p l e R s m args below meth c H locs cells slots Q (F0 m pc ls (.long y :: .long x :: rest)) := by
  intro T hT X
  obtain ⟨t, a, b⟩ := k T hT X
  refine ⟨t, ?_, b⟩
  jvm_step X.here [X.here.top, hexec, hb, hdg]
  by_cases h1 : y < x
  · rw [if_pos h1]
    have h3 : lcI x y = 1 := by unfold lcI; exact if_pos h1
    rw [h3] at a; exact a
  · rw [if_neg h1]
    by_cases h2 : x = y
    · rw [if_pos h2]
      have h3 : lcI x y = 0 := by unfold lcI; rw [if_neg h1, if_pos (by simp [h2])]
      rw [h3] at a; exact a
    · rw [if_neg h2]
      have h3 : lcI x y = -1 := by unfold lcI; rw [if_neg h1, if_neg (by simp [h2])]
      rw [h3] at a; exact a
/-- a road that is reached from two places, with the world told -/
theorem kx_joinW {Pj : Prop} {ws1 : va_W} {pj : Nat} (h1 : Pj → ∀ (H1 : Heap) (locs1 : List Loc), va_P D cl ws1 H1 → va_D A ws1 → va_S A H0 H1 locs1 → W p l e R s m args below meth c H1 locs1 cells slots Q (F0 m pj ls []))
    (h2 : (Pj → ∀ (H1 : Heap) (locs1 : List Loc), va_P D cl ws1 H1 → va_D A ws1 → va_S A H0 H1 locs1 → W p l e R s m args below meth c H1 locs1 cells slots Q (F0 m pj ls [])) → W p l e R s m args below meth c H locs cells slots Q (F0 m pc ls st0)) : W p l e R s m args below meth c H locs cells slots Q (F0 m pc ls st0) := h2 h1
/-- the script's cell -/
def cellV (L : Nat) (xs : Nat → Int32) (k : Nat) : Int32 := if k < L then xs k else 1804289383 * nI (k + 521)
def kcX (av : List Value) (sb L : Nat) (xs : Nat → Int32) : Array Value → State → Prop := fun v U => v = av.toArray ∧ va_X sb L xs U U.heap ∧ sb < U.heap.size
theorem kcX_blind {av : List Value} {sb L : Nat} {xs : Nat → Int32} : FrameBlind (kcX av sb L xs) := fun a U g mk q => by
  obtain ⟨q0, q1, q2⟩ := q
  exact ⟨q0, va_X.moved (u := U) (U := U.calling g mk a) (Vm.Alike.refl U.vm) q1, q2⟩
theorem kc_S {sb L : Nat} {xs : Nat → Int32} (S : CallFix p m c cc nL s args Ts own) (hM : Met l y wds rm (kcX As sb L xs) (kr (.returned v)) 0 0 (fun _ => False)) (cw : CallB R s args own index y bytes maxL ret wds rm 0 0 n ∧ (Cond.static y).before args s = true) (hX : va_X sb L xs s s.heap) (hbl : sb < s.heap.size) (hbA : ¬ A sb) (hS : va_S A s.heap H locs)
    (hn : As.length = n) (hz : ls.size = nL) (hst : st0 = As.reverse ++ rest) (hW : (rest.map fun v => v.category).sum ≤ 8) (hdg : decode cc pc = .ok (.invokestatic index, 3)) (hf : cells + 0 ≤ R.cells ∧ slots + 0 ≤ R.slots) (kk : W p l e R s m args below meth c H locs cells slots Q (F0 m (pc + 3) ls (v.toList ++ rest))) : W p l e R s m args below meth c H locs cells slots Q (F0 m pc ls st0) := by
  have hrun := va_runS (H := H) (below := below) (meth := meth) (e := e) (locs := locs) (cells := cells) (slots := slots) (g := F0 m pc ls st0) (rest := rest) S hM cw ⟨kcX_blind, fun U hU hWm => ⟨rfl, by rw [hU]; exact va_X.moved hWm.alike (va_X.kept hX (hS.2.1 sb hbl hbA)), by rw [hU]; exact Nat.lt_of_lt_of_le hbl hS.1⟩⟩ rfl hn hz hst (lv_room hW) hdg hf
  intro T hT X
  obtain ⟨v', st₀, t, T', L, h0, X', hL, e1, -, ⟨hv, hh⟩, st⟩ := hrun T hT X
  cases hv
  obtain ⟨t2, a1, b1⟩ := kk T' (by rw [e1, hh, h0]) (Stand.forget X' (fun q h => (hL q h).elim))
  exact ⟨t2, st t2 a1, b1⟩
/-- a method of the law that acts on the whole: what it wants, what it leaves -/
def jP (y : Nat → Nat) (A : Nat → Prop) (av : List Value) (D : va_G) (tys : List (ClassId × FieldType)) (J : Heap → Prop) : Array Value → State → Prop := fun v U => v = av.toArray ∧ va_K D vwCl tys U ∧ zZ y A U U.heap ∧ J U.heap
def jQ (A : Nat → Prop) (J : Heap → Prop) : Array Value → State → Outcome → State → Prop := fun _ st oc t => oc = .returned (some (.int (nI 1))) ∧ J t.heap ∧ va_F A st t
theorem jP_blind {av : List Value} {J : Heap → Prop} : FrameBlind (jP zy A av D tys J) := fun a U g mk q => by
  obtain ⟨q0, qK, qZ, qJ⟩ := q
  exact ⟨q0, va_K.moved (u := U) (U := U.calling g mk a) (Vm.Alike.refl U.vm) qK, zZ.moved (u := U) (U := U.calling g mk a) (Vm.Alike.refl U.vm) qZ, qJ⟩
theorem kSA {H1 : Heap} {L : List Loc} (hS : va_S A H0 H locs) (hz : H.size ≤ H1.size) (hk : ∀ q : Nat, q < H.size → ¬ A q → H1[q]? = H[q]?) (hL : ∀ q ∈ L, A q.base) : va_S A H0 H1 (locs ++ L) := by
  refine ⟨Nat.le_trans hS.1 hz, fun q h1 h2 => ?_, fun x hx => ?_⟩
  · rw [hk q (Nat.lt_of_lt_of_le h1 hS.1) h2]
    exact hS.2.1 q h1 h2
  · rcases List.mem_append.mp hx with h | h
    · exact hS.2.2 x h
    · exact hL x h
theorem kL_S {J J1 : Heap → Prop} (S : CallFix p m c cc nL s args Ts own) (hM : Met l y wds rm (jP zy A As D tc J) (jQ A J1) 0 0 A) (cw : CallB R s args own index y bytes maxL ret wds rm 0 0 n ∧ (Cond.static y).before args s = true) (hK : va_K D vwCl tc s) (hZ : zZ zy A s s.heap) (hJ : J H) (hS : va_S A s.heap H locs)
    (hn : As.length = n) (hz : ls.size = nL) (hst : st0 = As.reverse ++ rest) (hW : (rest.map fun v => v.category).sum ≤ 8) (hdg : decode cc pc = .ok (.invokestatic index, 3)) (hf : cells + 0 ≤ R.cells ∧ slots + 0 ≤ R.slots) (kk : ∀ (H1 : Heap) (locs1 : List Loc), J1 H1 → va_S A s.heap H1 locs1 → W p l e R s m args below meth c H1 locs1 cells slots Q (F0 m (pc + 3) ls (.int (nI 1) :: rest))) : W p l e R s m args below meth c H locs cells slots Q (F0 m pc ls st0) := by
  have hrun := va_runS (H := H) (below := below) (meth := meth) (e := e) (locs := locs) (cells := cells) (slots := slots) (g := F0 m pc ls st0) (rest := rest) S hM cw ⟨jP_blind, fun U hU hWm => ⟨rfl, va_K.moved hWm.alike hK, by rw [hU]; exact (hZ.kept (fun a ha hn => hS.2.1 a ha hn)).moved hWm.alike, by rw [hU]; exact hJ⟩⟩ rfl hn hz hst (lv_room hW) hdg hf
  intro T hT X
  obtain ⟨v', st₀, t, T', L, h0, X', hL, e1, -, ⟨hv, hJ1, hF1, hF2⟩, st⟩ := hrun T hT X
  cases hv
  rw [h0] at hF1 hF2
  obtain ⟨t2, a1, b1⟩ := kk t.heap _ hJ1 (kSA hS hF1 hF2 hL) T' e1 X'
  exact ⟨t2, st t2 a1, b1⟩
theorem kL_zret {J : Heap → Prop} (hexec : p.tables.exec = Jvm.exec) (hb : c.code = cc) (hr : meth.sig.returnType = some .boolean) (hlocks : meth.locks = false) (hJ : J H) (hS : va_S A s.heap H locs) {pc : Nat} {ls : Array Slot} (hdg : decode cc pc = .ok (.ireturn, 1)) : W p l e R s m args below meth c H locs cells slots (MQ below (jQ A J) args s cells slots A) (F0 m pc ls [.int (nI 1)]) :=
  W.zret hexec hb hr rfl (fun t ht _ => ⟨rfl, by rw [ht]; exact hJ, hS.F ht⟩) hS.2.2 hdg hlocks
theorem kx_imul2 (hexec : p.tables.exec = Jvm.exec) (hb : c.code = cc) {x y v : Int32} (E : x * y = v) (hdg : decode cc pc = .ok (.imul, 1)) (k : W p l e R s m args below meth c H locs cells slots Q (F0 m (pc + 1) ls (.int v :: rest))) : W p l e R s m args below meth c H locs cells slots Q (F0 m pc ls (.int y :: .int x :: rest)) :=
  lv_imul hexec hb hdg (by rw [E]; exact k)
end JL
set_option maxHeartbeats 4000000 in
set_option maxRecDepth 100000 in
theorem c_L_cell (l : Launch) (sb L k : Nat) (xs : Nat → Int32) (hL : L ≤ 260) (hk : k < 1000) : Met l yL_cell wsL_cell ({ frames := 0, cells := 0, slots := 0, locals := 0 }) (kcX [.ref sb, .int (nI k)] sb L xs) (kr (.returned (some (.int (cellV L xs k))))) 0 0 (fun _ => False) := by
  refine Met.ofW (cc := cL_cell) (maxL := 2) (ret := (some .int)) (by decide) rfl ?_
  intro p e s m args below meth c s₁ B hml hv
  obtain ⟨rfl, hX, hbl⟩ := hv
  have hx := B.exec
  have hb := B.bytes
  have hrt := B.returns
  have hts := atoms_spec (ws := wsL_cell) B.pre
  have hown : s.vm.findClass RL = some m.cls := findClass_of_methodNamed B.named
  have hlocks := B.notSynchronized
  have hl := lv_entry ([.ref sb, .int (nI k)]) (n := 2) (Nat.le_of_ble_eq_true rfl)
  rw [lg_entry_eq]
  generalize (lg_sl ([.ref sb, .int (nI k)]) ++ List.replicate (2 - (lg_sl ([.ref sb, .int (nI k)])).length) Slot.unset).toArray = ls at hl ⊢
  have hl : lv_has ls 2 [(0, .ref sb), (1, .int (nI k))] := hl
  have hS : va_S (fun _ => False) s.heap s.heap [] := va_S.rf
  refine lv_iload_n hx hb dL_cell_0 rfl (lv_at hl 1 rfl) ?_
  refine lv_aload_n hx hb dL_cell_1 rfl (lv_at hl 0 rfl) ?_
  refine va_slen hx hb hX hbl (fun h => h) hS dL_cell_2 ?_
  refine kx_icmp_ge (tgt := 12) hx hb (by omega) (by omega) dL_cell_3 (by decide) (fun c1 => ?_) (fun c2 => ?_)
  · refine lv_ldc (v := 1804289383) hx hb hown (hts (.constant RL 7 1804289383) (List.mem_of_getElem? (i := 1) rfl)) dL_cell_12 ?_
    refine lv_iload_n hx hb dL_cell_14 rfl (lv_at hl 1 rfl) ?_
    refine lv_sipush (v := nI 521) hx hb dL_cell_15 (by decide) ?_
    refine kx_iadd hx hb dL_cell_18 ?_
    refine kx_imul2 hx hb (v := cellV L xs k) (by unfold cellV; rw [if_neg (by omega)]) dL_cell_19 ?_
    exact kr_iret hx hb hrt hlocks rfl rfl dL_cell_20
  · refine lv_aload_n hx hb dL_cell_6 rfl (lv_at hl 0 rfl) ?_
    refine lv_iload_n hx hb dL_cell_7 rfl (lv_at hl 1 rfl) ?_
    refine va_sld hx hb hX hbl (fun h => h) hS (vp_in_nI c2 (by omega)) dL_cell_8 ?_
    refine kx_top (show xs (nI k).toNatClampNeg = cellV L xs k from by rw [nI_clamp (by omega)]; unfold cellV; rw [if_pos c2]) ?_
    refine lv_goto (tgt := 20) hx hb dL_cell_9 (by decide) ?_
    exact kr_iret hx hb hrt hlocks rfl rfl dL_cell_20
end
section
/-! the law's own arrays beside the hall: rows, columns, numbers -/
def NN (z : ZZ) (nk : Nat) (nf : ZZ) : Prop := nf 0 = nI (nR z) ∧ nf 1 = nI (nC z) ∧ nf 2 = nI nk ∧ nf 3 = z 0 ∧ nf 4 = z 1 ∧ nf 5 = z 2
def RO (z rf : ZZ) : Prop := ∀ j, j < 4 * nR z → rf j = z (5 + j)
def CO (z cf : ZZ) : Prop := ∀ j, j < 3 * nC z → cf j = z (45 + j)
theorem ro_0 {z rf : ZZ} (h : RO z rf) {r : Nat} (hr : r < nR z) : rf (4 * r) = z (5 + 4 * r) := h _ (by omega)
theorem ro_1 {z rf : ZZ} (h : RO z rf) {r : Nat} (hr : r < nR z) : rf (4 * r + 1) = z (5 + 4 * r + 1) := (h (4 * r + 1) (by omega)).trans (congrArg z (by omega))
theorem ro_2 {z rf : ZZ} (h : RO z rf) (hw : WF z) {r : Nat} (hr : r < nR z) : rf (4 * r + 2) = nI (nS z r) := ((h (4 * r + 2) (by omega)).trans (congrArg z (by omega))).trans (wf_S hw hr)
theorem ro_3 {z rf : ZZ} (h : RO z rf) {r : Nat} (hr : r < nR z) : rf (4 * r + 3) = z (5 + 4 * r + 3) := (h (4 * r + 3) (by omega)).trans (congrArg z (by omega))
theorem cz_0 {z cf : ZZ} (h : CO z cf) {k : Nat} (hk : k < nC z) : cf (3 * k) = z (45 + 3 * k) := h _ (by omega)
theorem cz_1 {z cf : ZZ} (h : CO z cf) {k : Nat} (hk : k < nC z) : cf (3 * k + 1) = z (45 + 3 * k + 1) := (h (3 * k + 1) (by omega)).trans (congrArg z (by omega))
theorem cz_2 {z cf : ZZ} (h : CO z cf) {k : Nat} (hk : k < nC z) : cf (3 * k + 2) = z (45 + 3 * k + 2) := (h (3 * k + 2) (by omega)).trans (congrArg z (by omega))
theorem ro_w {z rf : ZZ} (h : RO z rf) (hw : WF z) {r w : Nat} (hr : r < nR z) (hw3 : w < 3) : rf (4 * r + w) = rowNowI z r w := by
  rcases (show w = 0 ∨ w = 1 ∨ w = 2 by omega) with rfl | rfl | rfl
  · exact ro_0 h hr
  · exact ro_1 h hr
  · exact ro_2 h hw hr
theorem cz_w {z cf : ZZ} (h : CO z cf) {k w : Nat} (hk : k < nC z) (hw3 : w < 3) : cf (3 * k + w) = colNow z k w := by
  unfold colNow
  rw [if_pos hw3]
  exact (h (3 * k + w) (by omega)).trans (congrArg z (by omega))
/-! what the law makes of a number -/
def hfN (x : Int32) : Nat := x.toBitVec.toNat / 2 ^ 1
theorem hfN_lt (x : Int32) : hfN x < 2 ^ 31 := by
  unfold hfN; have := x.toBitVec.isLt; omega
theorem ush_1 (x : Int32) : ush x (nI 1) = nI (hfN x) := by
  refine Int32.toBitVec_inj.mp (BitVec.eq_of_toNat_eq ?_)
  rw [pk_tn (show hfN x < 2 ^ 32 by have := hfN_lt x; omega)]
  exact pk_ushr x (nI 1) 1 (by decide)
def atN (v : Int32) (n : Nat) : Nat := hfN v % n
theorem atN_lt (v : Int32) {n : Nat} (h : 0 < n) : atN v n < n := Nat.mod_lt _ h
theorem sd_eq (k n : Nat) : nI (2 * k + 1) - nI n = nI (2 * k) - (nI n - nI 1) := by
  rw [← nI_add]
  grind
theorem and1_tk (z : ZZ) (r w : Nat) : (z (5 + 4 * r + 3) >>> (nI w &&& 31)) &&& nI 1 = nI (b2 (tk z r w)) := by
  unfold tk
  generalize z (5 + 4 * r + 3) >>> (nI w &&& 31) = x
  have h := pk_and x (m := nI 1) 1 (by decide)
  rw [h]
  generalize x.toBitVec.toNat = t
  rcases (show t % 2 ^ 1 = 0 ∨ t % 2 ^ 1 = 1 by omega) with q | q <;> rw [q] <;> decide
def aF (z : ZZ) (wh r w : Nat) : Nat := if wh = 0 then 1 else b2 (tk z r w)
def allL (z : ZZ) (wh : Nat) : Nat := sumN (nR z) fun r => sumN (nS z r) (aF z wh r)
theorem sumN_e {n : Nat} {f g : Nat → Nat} (h : ∀ k, k < n → f k = g k) : sumN n f = sumN n g := by
  induction n with
  | zero => rfl
  | succ n ih => rw [sumN_s, sumN_s, ih (fun k hk => h k (by omega)), h n (by omega)]
theorem sumN_1 (n : Nat) : sumN n (fun _ => 1) = n := by
  induction n with
  | zero => rfl
  | succ n ih => rw [sumN_s, ih]
theorem allL_0 (z : ZZ) : allL z 0 = seatsAll z := sumN_e fun r _ => (sumN_e fun w _ => if_pos rfl).trans (sumN_1 _)
theorem allL_1 (z : ZZ) : allL z 1 = takenAll z := sumN_e fun r _ => sumN_e fun w _ => if_neg (by omega)
theorem allL_b {z : ZZ} (hw : WF z) (wh : Nat) : allL z wh ≤ 120 := by
  have hR := wf_R10 hw
  have h : allL z wh ≤ nR z * 12 := sumN_b fun r hr => by
    have h2 := wf_S12 hw hr
    have h3 : sumN (nS z r) (aF z wh r) ≤ nS z r * 1 := sumN_b fun w _ => by
      unfold aF; split
      · exact Nat.le_refl _
      · exact b2_b _
    omega
  omega
theorem sumN_cut {n r : Nat} {f : Nat → Nat} (hr : r ≤ n) (h : ∀ j, r ≤ j → j < n → f j = 0) : sumN n f = sumN r f := by
  induction n with
  | zero => rw [show r = 0 by omega]
  | succ n ih =>
    rcases Nat.lt_or_ge n r with q | q
    · rw [show r = n + 1 by omega]
    · rw [sumN_s, ih q (fun j h1 h2 => h j h1 (by omega)), h n q (by omega), Nat.add_zero]
theorem ppl_all {z : ZZ} {r : Nat} (hr : r < nR z) (k : Nat) : sumN (nR z) (fun a => pplA z a r k) = people z r k := by
  refine sumN_cut (by omega) (fun j h1 _ => ?_)
  have h2 : pplA z j r k ≤ nS z j * 0 := sumN_b fun w _ => by
    unfold blk
    rw [decide_eq_false (by omega), Bool.false_and, Bool.and_false]; exact Nat.le_refl _
  omega
/-! comparisons, as the law writes them -/
theorem ng_ti (x : Int32) : (-x).toInt = -x.toInt ∨ (x.toInt = -2147483648 ∧ (-x).toInt = -2147483648) := by
  rcases Int.lt_or_le (-2147483648) x.toInt with h | h
  · exact Or.inl (ti_neg h)
  · have h1 : -2147483648 ≤ x.toInt := Int32.le_toInt x
    have h2 : x.toInt = -2147483648 := by omega
    refine Or.inr ⟨h2, ?_⟩
    rw [Int32.toInt_neg, h2]; decide
theorem near_law {x u : Int32} (hu : 0 < u.toInt) : (!decide (u ≤ absI x)) = (decide (x < u) && decide (-x < u)) := by
  rw [Bool.eq_iff_iff, Bool.not_eq_true', decide_eq_false_iff_not, Bool.and_eq_true, decide_eq_true_eq, decide_eq_true_eq, Int32.le_iff_toInt_le, Int32.lt_iff_toInt_lt, Int32.lt_iff_toInt_lt]
  unfold absI
  have h0 : (0 : Int32).toInt = 0 := by decide
  rcases ng_ti x with g | ⟨g1, g2⟩
  · by_cases h : x < 0
    · have h' := Int32.lt_iff_toInt_lt.mp h
      rw [if_pos h, g]; omega
    · have h' : ¬ x.toInt < (0 : Int32).toInt := fun q => h (Int32.lt_iff_toInt_lt.mpr q)
      rw [if_neg h, g]; omega
  · have h : x < 0 := Int32.lt_iff_toInt_lt.mpr (by omega)
    rw [if_pos h, g1, g2]; omega
theorem wide_law (x w : Int32) : (!decide (w < absI x)) = (decide (x ≤ w) && decide (-x ≤ w)) := by
  rw [Bool.eq_iff_iff, Bool.not_eq_true', decide_eq_false_iff_not, Bool.and_eq_true, decide_eq_true_eq, decide_eq_true_eq, Int32.le_iff_toInt_le, Int32.le_iff_toInt_le, Int32.lt_iff_toInt_lt]
  unfold absI
  have h0 : (0 : Int32).toInt = 0 := by decide
  rcases ng_ti x with g | ⟨g1, g2⟩
  · by_cases h : x < 0
    · have h' := Int32.lt_iff_toInt_lt.mp h
      rw [if_pos h, g]; omega
    · have h' : ¬ x.toInt < (0 : Int32).toInt := fun q => h (Int32.lt_iff_toInt_lt.mpr q)
      rw [if_neg h, g]; omega
  · have h : x < 0 := Int32.lt_iff_toInt_lt.mpr (by omega)
    rw [if_pos h, g1, g2]; omega
theorem l_mul {a b : Int32} (h1 : -2000000 ≤ a.toInt * b.toInt) (h2 : a.toInt * b.toInt ≤ 2000000) : (a.toInt64 * b.toInt64).toInt = a.toInt * b.toInt := by
  rw [Int64.toInt_mul, Int32.toInt_toInt64, Int32.toInt_toInt64]
  exact Int.bmod_eq_of_le (by omega) (by omega)
theorem lc_0 (x y : Int64) : lcI x y ≤ 0 ↔ x.toInt ≤ y.toInt := by
  unfold lcI
  by_cases h : x > y
  · rw [if_pos h]
    have h1 : y.toInt < x.toInt := Int64.lt_iff_toInt_lt.mp h
    constructor
    · intro q; exact absurd q (by decide)
    · intro q; omega
  · rw [if_neg h]
    have h1 : ¬ y.toInt < x.toInt := fun q => h (Int64.lt_iff_toInt_lt.mpr q)
    by_cases h2 : (x == y) = true
    · rw [if_pos h2]
      exact ⟨fun _ => by omega, fun _ => by decide⟩
    · rw [if_neg h2]
      exact ⟨fun _ => by omega, fun _ => by decide⟩
theorem eye_ti {z : ZZ} (h : VAL z) {r : Nat} (hr : r < nR z) : -998 ≤ (eyeP z r).toInt ∧ (eyeP z r).toInt ≤ 1399 := by
  obtain ⟨a1, a2⟩ := (h.2.2.2.1 r hr).2.1
  obtain ⟨⟨b1, b2⟩, ⟨c1, c2⟩, ⟨d1, d2⟩⟩ := h.2.2.2.2
  unfold eyeP
  have e1 : (z (5 + 4 * r + 1) + z 1).toInt = (z (5 + 4 * r + 1)).toInt + (z 1).toInt := ti_add (by omega) (by omega)
  rw [ti_sub (by omega) (by omega), e1]; omega
theorem ord_law {z : ZZ} (h : WS z) {a r : Nat} (ha : a < nR z) (hr : r < nR z) : decide (a < r) = decide (z (5 + 4 * a) < z (5 + 4 * r)) := by
  rw [Bool.eq_iff_iff, decide_eq_true_eq, decide_eq_true_eq]
  constructor
  · exact fun q => h a r q hr
  · intro q
    rcases Nat.lt_trichotomy a r with g | g | g
    · exact g
    · subst g; exact absurd q Int32.lt_irrefl
    · have q2 := h r a g ha
      rw [Int32.lt_iff_toInt_lt] at q q2; omega
theorem high_law {z : ZZ} (h : VAL z) {a r : Nat} (ha : a < nR z) (hr : r < nR z) : higher z a r = !decide (lcI ((headP z a).toInt64 * (z (5 + 4 * r)).toInt64) ((eyeP z r).toInt64 * (z (5 + 4 * a)).toInt64) ≤ 0) := by
  obtain ⟨h1, h2⟩ := head_ti h ha
  obtain ⟨e1, e2⟩ := eye_ti h hr
  obtain ⟨d1, d2⟩ := (h.2.2.2.1 r hr).1
  obtain ⟨n1, n2⟩ := (h.2.2.2.1 a ha).1
  obtain ⟨m1, m2⟩ := mul_b h1 h2 d1 d2
  obtain ⟨k1, k2⟩ := mul_b e1 e2 n1 n2
  unfold higher
  refine congrArg (fun b : Bool => !b) (decide_eq_decide.mpr ((Int32.le_iff_toInt_le.trans ?_).trans (lc_0 _ _).symm))
  rw [l_mul m1 m2, l_mul k1 k2, ti_mul (by omega) (by omega), ti_mul (by omega) (by omega)]
theorem blk_law {z : ZZ} (h : VAL z) {a r : Nat} (ha : a < nR z) (hr : r < nR z) (w k : Nat) : blk z a w r k = (decide (z (5 + 4 * a) < z (5 + 4 * r)) && (!decide (lcI ((headP z a).toInt64 * (z (5 + 4 * r)).toInt64) ((eyeP z r).toInt64 * (z (5 + 4 * a)).toInt64) ≤ 0) && (decide (side z a w * z (5 + 4 * r) - side z r k * z (5 + 4 * a) < z (5 + 4 * r)) && decide (-(side z a w * z (5 + 4 * r) - side z r k * z (5 + 4 * a)) < z (5 + 4 * r))))) := by
  unfold blk nearH
  rw [ord_law h.2.1 ha hr, high_law h ha hr, near_law (by have := (h.2.2.2.1 r hr).1.1; omega)]
theorem cblk_law (z : ZZ) (k r s : Nat) : cblk z k r s = (decide (z (45 + 3 * k) < z (5 + 4 * r)) && (decide (z (45 + 3 * k + 1) * z (5 + 4 * r) - side z r s * z (45 + 3 * k) ≤ z (45 + 3 * k + 2) * z (5 + 4 * r)) && decide (-(z (45 + 3 * k + 1) * z (5 + 4 * r) - side z r s * z (45 + 3 * k)) ≤ z (45 + 3 * k + 2) * z (5 + 4 * r)))) := by
  unfold cblk
  rw [wide_law]
  congr 1
  rw [Bool.eq_iff_iff, Bool.not_eq_true', decide_eq_false_iff_not, decide_eq_true_eq]
  exact Int32.not_le
/-! no free seats side by side -/
section PCS
variable {z : ZZ} {m r f : Nat} {p : Int32 × Int32}
theorem pcS_a (h : freeB z r f m = false) : pcS z m r f p = p := by unfold pcS; rw [if_pos h]
theorem pcS_b (h : freeB z r f m = true) (h1 : p.1 = -1) : pcS z m r f p = (nI (100 * r + f), nI (sumN m fun j => ways z r (f + j))) := by
  unfold pcS; rw [if_neg (by rw [h]; decide), if_pos h1]
theorem pcS_c (h : freeB z r f m = true) (h1 : ¬ p.1 = -1) (h2 : p.2 ≤ nI (sumN m fun j => ways z r (f + j))) : pcS z m r f p = p := by
  unfold pcS; rw [if_neg (by rw [h]; decide), if_neg h1, if_pos h2]
theorem pcS_d (h : freeB z r f m = true) (h1 : ¬ p.1 = -1) (h2 : ¬ p.2 ≤ nI (sumN m fun j => ways z r (f + j))) : pcS z m r f p = (nI (100 * r + f), nI (sumN m fun j => ways z r (f + j))) := by
  unfold pcS; rw [if_neg (by rw [h]; decide), if_neg h1, if_neg h2]
end PCS
theorem pc_keep {z : ZZ} {m r f : Nat} {p : Int32 × Int32} (hf : 100 * r + f < 2 ^ 31) (h : ¬ p.1 = -1) : ¬ (pcS z m r f p).1 = -1 := by
  cases hb : freeB z r f m with
  | false => rw [pcS_a hb]; exact h
  | true =>
    by_cases g : p.2 ≤ nI (sumN m fun j => ways z r (f + j))
    · rw [pcS_c hb h g]; exact h
    · rw [pcS_d hb h g]; exact nI_ne_m1 hf
theorem pc_hit {z : ZZ} {m r f : Nat} {p : Int32 × Int32} (hf : 100 * r + f < 2 ^ 31) (h : freeB z r f m = true) : ¬ (pcS z m r f p).1 = -1 := by
  by_cases q : p.1 = -1
  · rw [pcS_b h q]; exact nI_ne_m1 hf
  · exact pc_keep hf q
theorem pcR_keep {z : ZZ} {m r : Nat} (hr : r < 1000) {n : Nat} (hn : n < 1000) {p : Int32 × Int32} (h : ¬ p.1 = -1) : ¬ (itN n (pcS z m r) p).1 = -1 := by
  induction n with
  | zero => exact h
  | succ n ih => rw [itN_s]; exact pc_keep (by omega) (ih (by omega))
theorem pcR_hit {z : ZZ} {m r f : Nat} (hr : r < 1000) {n : Nat} (hn : n < 1000) (hf : f < n) {p : Int32 × Int32} (h : freeB z r f m = true) : ¬ (itN n (pcS z m r) p).1 = -1 := by
  induction n with
  | zero => omega
  | succ n ih =>
    rw [itN_s]
    rcases Nat.lt_or_ge f n with q | q
    · exact pc_keep (by omega) (ih (by omega) q)
    · rw [show f = n by omega] at h
      exact pc_hit (by omega) h
theorem no_free {z : ZZ} (hw : WF z) {m : Nat} (hm : 1 ≤ m) (h : placeForI z m = -1) {r f : Nat} (hr : r < nR z) (hf : f + m ≤ nS z r) : freeB z r f m = false := by
  have hR := wf_R10 hw
  cases hb : freeB z r f m with
  | false => rfl
  | true =>
    exfalso
    rw [← place_pc hw hm] at h
    have K : ∀ k, k ≤ nR z → r < k → ¬ (itN k (pcR z m) (-1, nI 0)).1 = -1 := by
      intro k
      induction k with
      | zero => intro _ q; omega
      | succ k ih =>
        intro hk hrk
        have hS := wf_S12 hw (show k < nR z by omega)
        rw [itN_s]
        rcases Nat.lt_or_ge r k with q | q
        · exact pcR_keep (by omega) (by omega) (ih (by omega) q)
        · obtain rfl : r = k := by omega
          exact pcR_hit (by omega) (by omega) (f := f) (by omega) hb
    exact K (nR z) (Nat.le_refl _) hr h
theorem lg_row {z : ZZ} {m r : Nat} (hm : 1 ≤ m) (hS : nS z r ≤ 12) (h : ∀ f, f + m ≤ nS z r → freeB z r f m = false) {b0 : Nat} (hb0 : b0 < m) (hm2 : m ≤ 12) : ∀ k, k ≤ nS z r → ∃ a b : Nat, itN k (lgS z r) (nI 0, nI b0) = (nI a, nI b) ∧ a ≤ k ∧ b < m ∧ a < m ∧ ∀ j, k - a ≤ j → j < k → tk z r j = false := by
  intro k
  induction k with
  | zero => intro _; exact ⟨0, b0, rfl, Nat.le_refl _, hb0, hm, fun j _ h2 => absurd h2 (Nat.not_lt_zero j)⟩
  | succ k ih =>
    intro hk
    obtain ⟨a, b, e, ha, hb, ham, hj⟩ := ih (by omega)
    rw [itN_s, e]
    unfold lgS
    cases ht : tk z r k with
    | true =>
      refine ⟨0, b, ?_, by omega, hb, hm, fun j h1 h2 => by omega⟩
      simp only [if_true]
      rw [if_pos (nI_le (Nat.zero_le b) (by omega))]
    | false =>
      have ha1 : a + 1 < m := by
        rcases Nat.lt_or_ge (a + 1) m with q | q
        · exact q
        · exfalso
          have hf := h (k + 1 - m) (by omega)
          rw [freeB_all z r (k + 1 - m) (by omega)] at hf
          have ht2 : allN m (fun j => !tk z r (k + 1 - m + j)) = true := allN_t fun j hjm => by
            rcases Nat.lt_or_ge (k + 1 - m + j) k with g | g
            · rw [hj _ (by omega) g]; rfl
            · rw [show k + 1 - m + j = k by omega, ht]; rfl
          rw [ht2] at hf; cases hf
      refine ⟨a + 1, (if a + 1 ≤ b then b else a + 1), ?_, by omega, by split <;> omega, ha1, fun j h1 h2 => ?_⟩
      · simp only [Bool.false_eq_true, if_false]
        rw [show nI a + nI 1 = nI (a + 1) from nI_add a 1]
        by_cases g : a + 1 ≤ b
        · rw [if_pos g, if_pos (nI_le g (by omega))]
        · rw [if_neg g, if_neg (fun q => g ((nI_leI (by omega) (by omega)).mp q))]
      · rcases Nat.lt_or_ge j k with g | g
        · exact hj j (by omega) g
        · rw [show j = k by omega]; exact ht
theorem lg_lt {z : ZZ} (hw : WF z) {m : Nat} (hm : 1 ≤ m) (hm2 : m ≤ 12) (h : placeForI z m = -1) : lgI z < nI m := by
  have K : ∀ k, k ≤ nR z → ∃ b : Nat, b < m ∧ itN k (lgR z) (nI 0) = nI b := by
    intro k
    induction k with
    | zero => intro _; exact ⟨0, hm, rfl⟩
    | succ k ih =>
      intro hk
      obtain ⟨b, hb, e⟩ := ih (by omega)
      obtain ⟨a, b1, e1, -, hb1, -, -⟩ := lg_row (m := m) hm (wf_S12 hw (show k < nR z by omega)) (fun f hf => no_free hw hm h (show k < nR z by omega) hf) hb hm2 (nS z k) (Nat.le_refl _)
      refine ⟨b1, hb1, ?_⟩
      rw [itN_s, e]
      unfold lgR
      rw [e1]
  obtain ⟨b, hb, e⟩ := K (nR z) (Nat.le_refl _)
  unfold lgI
  rw [e]
  exact nI_lt hb (by omega)
/-! a place is -1 or a seat -/
theorem pc_neg {z : ZZ} (hw : WF z) {m r k : Nat} (hr : r < nR z) (hk : k ≤ nS z r + 1 - m) (hm : 1 ≤ m) {p : Int32 × Int32} (hp : p.1 = -1 ∨ 0 ≤ p.1) : (itN k (pcS z m r) p).1 = -1 ∨ 0 ≤ (itN k (pcS z m r) p).1 := by
  have hR := wf_R10 hw
  have hS := wf_S12 hw hr
  induction k with
  | zero => exact hp
  | succ k ih =>
    have h := ih (by omega)
    have h0 : 0 ≤ nI (100 * r + k) := nI_pos' (by omega)
    rw [itN_s]
    cases hb : freeB z r k m with
    | false => rw [pcS_a hb]; exact h
    | true =>
      by_cases q : (itN k (pcS z m r) p).1 = -1
      · rw [pcS_b hb q]; exact Or.inr h0
      · by_cases g : (itN k (pcS z m r) p).2 ≤ nI (sumN m fun j => ways z r (k + j))
        · rw [pcS_c hb q g]; exact h
        · rw [pcS_d hb q g]; exact Or.inr h0
theorem pcR_neg {z : ZZ} (hw : WF z) {m : Nat} (hm : 1 ≤ m) : ∀ k, k ≤ nR z → ((itN k (pcR z m) (-1, nI 0)).1 = -1 ∨ 0 ≤ (itN k (pcR z m) (-1, nI 0)).1) := by
  intro k
  induction k with
  | zero => intro _; exact Or.inl rfl
  | succ k ih => intro hk; rw [itN_s]; exact pc_neg hw (by omega) (Nat.le_refl _) hm (ih (by omega))
theorem m1_lt {x : Int32} (h : x = -1 ∨ 0 ≤ x) : (x < 0) ↔ x = -1 := by
  constructor
  · intro q
    rcases h with g | g
    · exact g
    · exact absurd q (Int32.not_lt.mpr g)
  · intro q; rw [q]; decide
end
section
/-! what holds between the law's calls: the numbers of the hall, the law's arrays, the survey -/
def LV3 (z : ZZ) (lk : Bool) (pe cn rk : ZZ) (nk : Nat) (nf rf cf : ZZ) : Prop := VAL z ∧ (lk = true → LKR z pe cn rk) ∧ nk ≤ 6 ∧ nR z ≤ 6 ∧ NN z nk nf ∧ RO z rf ∧ CO z cf
def shR (rf : ZZ) (k R w : Nat) : ZZ := fun j => if (4 * (k + 1) ≤ j ∧ j < 4 * (R + 1)) ∨ (4 * k ≤ j ∧ j < 4 * k + w) then rf (j - 4) else rf j
def dlR (rf : ZZ) (r k : Nat) : ZZ := fun j => if 4 * r ≤ j ∧ j < k then rf (j + 4) else rf j
def dlC (cf : ZZ) (c k : Nat) : ZZ := fun j => if 3 * c ≤ j ∧ j < k then cf (j + 3) else cf j
def zrR (rf : ZZ) (k : Nat) : ZZ := fun j => if j < 4 * k ∧ j % 4 = 3 then nI 0 else rf j
theorem rng_nI {n lo hi : Nat} (h1 : lo ≤ n) (h2 : n ≤ hi) (h3 : hi < 2 ^ 31) : rng (nI n) (lo : Int) (hi : Int) := by
  unfold rng; rw [nI_toInt (by omega)]; omega
theorem nK_le {n : Nat} (h : n ≤ 6) : nK n ≤ 6 := by unfold nK; split <;> omega
theorem nK_s {n : Nat} (h : n < 6) : nK n = n + 1 := by unfold nK; rw [if_neg (by omega)]
theorem nK_6 {n : Nat} (h : n = 6) : nK n = n := by unfold nK; rw [if_pos h, h]
theorem nj {X : ZZ} {nk : Nat} (h : X 2 = nI nk) (h6 : ¬ nk < 6) (hn : nk ≤ 6) : X = upd X 2 (nI (nK nk)) := by
  funext j
  unfold upd
  by_cases g : j = 2
  · rw [if_pos g, g, h, nK_6 (by omega)]
  · rw [if_neg g]
theorem lkf {z pe cn rk : ZZ} : false = true → LKR z pe cn rk := fun h => by cases h
section LVS
variable {z nf rf cf : ZZ} {nk : Nat}
/-- a row more -/
theorem lx_add (hV : VAL z) (hn : nk ≤ 6) (hN : NN z nk nf) (hO : RO z rf) (hC : CO z cf) (h5 : nR z < 6) {d hh s k : Nat} (hca : canAdd z (nI d) = true) (hd1 : 1 ≤ d) (hd2 : d ≤ 999) (hh9 : hh ≤ 999) (hs1 : 1 ≤ s) (hs2 : s ≤ 12) (hk : insAt z (nI d) (nR z) = k) (pe cn rk : ZZ) :
    LV3 (insZ z (nI d) (nI hh) (nI s)) false pe cn rk (nK nk) (upd (upd nf 0 (nI (nR z + 1))) 2 (nI (nK nk))) (upd (upd (upd (upd (shR rf k (nR z) 0) (4 * k) (nI d)) (4 * k + 1) (nI hh)) (4 * k + 2) (nI s)) (4 * k + 3) (nI 0)) cf := by
  have h10 : nR z < 10 := by omega
  have eR := nR_ins h10 (nI d) (nI hh) (nI s)
  have eC : nC (insZ z (nI d) (nI hh) (nI s)) = nC z := by unfold nC; rw [ins_hi h10 (Or.inr (Or.inl rfl))]
  have hkb := insAt_b z (nI d) (nR z)
  rw [hk] at hkb
  obtain ⟨n0, n1, n2, n3, n4, n5⟩ := hN
  refine ⟨val_ins hV hca (rng_nI (lo := 1) (hi := 999) hd1 hd2 (by omega)) (rng_nI (lo := 0) (hi := 999) (Nat.zero_le _) hh9 (by omega)) ⟨s, hs1, hs2, rfl⟩, lkf, nK_le hn, by omega, ⟨?_, ?_, upd_eq, ?_, ?_, ?_⟩, fun j hj => ?_, fun j hj => ?_⟩
  · rw [upd_ne (by omega), upd_eq, eR]
  · rw [upd_ne (by omega), upd_ne (by omega), n1, eC]
  · rw [upd_ne (by omega), upd_ne (by omega), n3, ins_hi h10 (Or.inl (by omega))]
  · rw [upd_ne (by omega), upd_ne (by omega), n4, ins_hi h10 (Or.inl (by omega))]
  · rw [upd_ne (by omega), upd_ne (by omega), n5, ins_hi h10 (Or.inl (by omega))]
  · rw [eR] at hj
    have e : insZ z (nI d) (nI hh) (nI s) = upd (upd (upd (upd (upd (shZ z k (nR z) 0) 3 (nI (nR z + 1))) (5 + 4 * k) (nI d)) (5 + 4 * k + 1) (nI hh)) (5 + 4 * k + 2) (nI s)) (5 + 4 * k + 3) (nI 0) := by unfold insZ; rw [hk]
    rw [e]
    by_cases g3 : j = 4 * k + 3
    · rw [g3, upd_eq, show 5 + (4 * k + 3) = 5 + 4 * k + 3 by omega, upd_eq]
    by_cases g2 : j = 4 * k + 2
    · rw [g2, upd_ne (by omega), upd_eq, show 5 + (4 * k + 2) = 5 + 4 * k + 2 by omega, upd_ne (by omega), upd_eq]
    by_cases g1 : j = 4 * k + 1
    · rw [g1, upd_ne (by omega), upd_ne (by omega), upd_eq, show 5 + (4 * k + 1) = 5 + 4 * k + 1 by omega, upd_ne (by omega), upd_ne (by omega), upd_eq]
    by_cases g0 : j = 4 * k
    · rw [g0, upd_ne (by omega), upd_ne (by omega), upd_ne (by omega), upd_eq, upd_ne (by omega), upd_ne (by omega), upd_ne (by omega), upd_eq]
    rw [upd_ne g3, upd_ne g2, upd_ne g1, upd_ne g0, upd_ne (by omega), upd_ne (by omega), upd_ne (by omega), upd_ne (by omega), upd_ne (by omega)]
    unfold shR shZ
    by_cases g : 4 * (k + 1) ≤ j
    · rw [if_pos (by omega), if_pos (by omega)]
      exact (hO _ (by omega)).trans (congrArg z (by omega))
    · rw [if_neg (by omega), if_neg (by omega)]
      exact hO j (by omega)
  · rw [eC] at hj
    rw [ins_hi h10 (Or.inr (Or.inr (by omega)))]
    exact hC j hj
/-- a row less -/
theorem lx_del (hV : VAL z) (hn : nk ≤ 6) (hN : NN z nk nf) (hO : RO z rf) (hC : CO z cf) (h6 : nR z ≤ 6) {r : Nat} (hr : r < nR z) (pe cn rk : ZZ) :
    LV3 (delZ z r) false pe cn rk (nK nk) (upd (upd nf 0 (nI (nR z - 1))) 2 (nI (nK nk))) (dlR rf r (4 * (nR z - 1))) cf := by
  have eR : nR (delZ z r) = nR z - 1 := by
    show (delZ z r 3).toNatClampNeg = nR z - 1
    rw [del_3, nI_clamp (by omega)]
  have eC : nC (delZ z r) = nC z := by unfold nC; rw [del_lo (by omega) (by omega)]
  obtain ⟨n0, n1, n2, n3, n4, n5⟩ := hN
  refine ⟨val_del hV hr, lkf, nK_le hn, by omega, ⟨?_, ?_, upd_eq, ?_, ?_, ?_⟩, fun j hj => ?_, fun j hj => ?_⟩
  · rw [upd_ne (by omega), upd_eq, eR]
  · rw [upd_ne (by omega), upd_ne (by omega), n1, eC]
  · rw [upd_ne (by omega), upd_ne (by omega), n3, del_lo (by omega) (by omega)]
  · rw [upd_ne (by omega), upd_ne (by omega), n4, del_lo (by omega) (by omega)]
  · rw [upd_ne (by omega), upd_ne (by omega), n5, del_lo (by omega) (by omega)]
  · rw [eR] at hj
    unfold dlR
    by_cases g : 4 * r ≤ j
    · rw [if_pos ⟨g, hj⟩, del_hi (by omega) (by omega)]
      exact (hO (j + 4) (by omega)).trans (congrArg z (by omega))
    · rw [if_neg (by omega), del_lo (by omega) (by omega)]
      exact hO j (by omega)
  · rw [eC] at hj
    have e : delZ z r (45 + j) = z (45 + j) := by unfold delZ delS; rw [if_neg (by omega), if_neg (by omega)]
    rw [e]; exact hC j hj
/-- a column more, a column less -/
theorem lx_addc (hV : VAL z) (hn : nk ≤ 6) (hN : NN z nk nf) (hO : RO z rf) (hC : CO z cf) (h6 : nR z ≤ 6) (hc : nC z < 4) (d s hh : Int32) (pe cn rk : ZZ) :
    LV3 (addC z d s hh) false pe cn rk (nK nk) (upd (upd nf 1 (nI (nC z + 1))) 2 (nI (nK nk))) rf (upd (upd (upd cf (3 * nC z) d) (3 * nC z + 1) s) (3 * nC z + 2) hh) := by
  have lo : ∀ j, j < 45 → j ≠ 4 → addC z d s hh j = z j := fun j h1 h2 => by
    unfold addC; rw [upd_ne h2, upd_ne (by omega), upd_ne (by omega), upd_ne (by omega)]
  have eR : nR (addC z d s hh) = nR z := by unfold nR; rw [lo 3 (by omega) (by omega)]
  have eC : nC (addC z d s hh) = nC z + 1 := by
    show (addC z d s hh 4).toNatClampNeg = nC z + 1
    unfold addC; rw [upd_eq, nI_clamp (by omega)]
  obtain ⟨n0, n1, n2, n3, n4, n5⟩ := hN
  refine ⟨val_addC hV hc d s hh, lkf, nK_le hn, by omega, ⟨?_, ?_, upd_eq, ?_, ?_, ?_⟩, fun j hj => ?_, fun j hj => ?_⟩
  · rw [upd_ne (by omega), upd_ne (by omega), n0, eR]
  · rw [upd_ne (by omega), upd_eq, eC]
  · rw [upd_ne (by omega), upd_ne (by omega), n3, lo 0 (by omega) (by omega)]
  · rw [upd_ne (by omega), upd_ne (by omega), n4, lo 1 (by omega) (by omega)]
  · rw [upd_ne (by omega), upd_ne (by omega), n5, lo 2 (by omega) (by omega)]
  · rw [eR] at hj
    rw [lo (5 + j) (by omega) (by omega)]; exact hO j hj
  · rw [eC] at hj
    unfold addC
    rw [upd_ne (show 45 + j ≠ 4 by omega)]
    by_cases g2 : j = 3 * nC z + 2
    · rw [g2, upd_eq, show 45 + (3 * nC z + 2) = 45 + 3 * nC z + 2 by omega, upd_eq]
    by_cases g1 : j = 3 * nC z + 1
    · rw [g1, upd_ne (by omega), upd_eq, show 45 + (3 * nC z + 1) = 45 + 3 * nC z + 1 by omega, upd_ne (by omega), upd_eq]
    by_cases g0 : j = 3 * nC z
    · rw [g0, upd_ne (by omega), upd_ne (by omega), upd_eq, upd_ne (by omega), upd_ne (by omega), upd_eq]
    rw [upd_ne g2, upd_ne g1, upd_ne g0, upd_ne (by omega), upd_ne (by omega), upd_ne (by omega)]
    exact hC j (by omega)
theorem lx_dlc (hV : VAL z) (hn : nk ≤ 6) (hN : NN z nk nf) (hO : RO z rf) (hC : CO z cf) (h6 : nR z ≤ 6) {c : Nat} (hc : c < nC z) (pe cn rk : ZZ) :
    LV3 (dlcZ z c) false pe cn rk (nK nk) (upd (upd nf 1 (nI (nC z - 1))) 2 (nI (nK nk))) rf (dlC cf c (3 * (nC z - 1))) := by
  have hC4 := wf_C4 hV.1
  have lo : ∀ j, j < 45 → j ≠ 4 → dlcZ z c j = z j := fun j h1 h2 => by
    unfold dlcZ dlcS; rw [if_neg h2, if_neg (by omega)]
  have e4 : dlcZ z c 4 = nI (nC z - 1) := by unfold dlcZ dlcS; rw [if_pos rfl]
  have eR : nR (dlcZ z c) = nR z := by unfold nR; rw [lo 3 (by omega) (by omega)]
  have eC : nC (dlcZ z c) = nC z - 1 := by
    show (dlcZ z c 4).toNatClampNeg = nC z - 1
    rw [e4, nI_clamp (by omega)]
  obtain ⟨n0, n1, n2, n3, n4, n5⟩ := hN
  refine ⟨val_dlc hV hc, lkf, nK_le hn, by omega, ⟨?_, ?_, upd_eq, ?_, ?_, ?_⟩, fun j hj => ?_, fun j hj => ?_⟩
  · rw [upd_ne (by omega), upd_ne (by omega), n0, eR]
  · rw [upd_ne (by omega), upd_eq, eC]
  · rw [upd_ne (by omega), upd_ne (by omega), n3, lo 0 (by omega) (by omega)]
  · rw [upd_ne (by omega), upd_ne (by omega), n4, lo 1 (by omega) (by omega)]
  · rw [upd_ne (by omega), upd_ne (by omega), n5, lo 2 (by omega) (by omega)]
  · rw [eR] at hj
    have hR := wf_R10 hV.1
    rw [lo (5 + j) (by omega) (by omega)]; exact hO j hj
  · rw [eC] at hj
    unfold dlC dlcZ dlcS
    rw [if_neg (show ¬ 45 + j = 4 by omega)]
    by_cases g : 3 * c ≤ j
    · rw [if_pos ⟨g, hj⟩, if_pos (by omega)]
      exact (hC (j + 3) (by omega)).trans (congrArg z (by omega))
    · rw [if_neg (by omega), if_neg (by omega)]
      exact hC j (by omega)
/-- a height, a setting -/
theorem lx_lift (hV : VAL z) (hn : nk ≤ 6) (hN : NN z nk nf) (hO : RO z rf) (hC : CO z cf) (h6 : nR z ≤ 6) {r hh : Nat} (hr : r < nR z) (hh9 : hh ≤ 999) (pe cn rk : ZZ) :
    LV3 (liftZ z r (nI hh)) false pe cn rk (nK nk) (upd nf 2 (nI (nK nk))) (upd rf (4 * r + 1) (nI hh)) cf := by
  have e : liftZ z r (nI hh) = upd z (5 + 4 * r + 1) (nI hh) := rfl
  have eR : nR (liftZ z r (nI hh)) = nR z := nR_upd (by omega)
  have eC : nC (liftZ z r (nI hh)) = nC z := nC_upd (by omega)
  obtain ⟨n0, n1, n2, n3, n4, n5⟩ := hN
  refine ⟨val_h hV r (rng_nI (lo := 0) (hi := 999) (Nat.zero_le _) hh9 (by omega)), lkf, nK_le hn, by omega, ⟨?_, ?_, upd_eq, ?_, ?_, ?_⟩, fun j hj => ?_, fun j hj => ?_⟩
  · rw [upd_ne (by omega), n0, eR]
  · rw [upd_ne (by omega), n1, eC]
  · rw [upd_ne (by omega), n3, e, upd_ne (by omega)]
  · rw [upd_ne (by omega), n4, e, upd_ne (by omega)]
  · rw [upd_ne (by omega), n5, e, upd_ne (by omega)]
  · rw [eR] at hj
    rw [e]
    by_cases g : j = 4 * r + 1
    · rw [g, upd_eq, show 5 + (4 * r + 1) = 5 + 4 * r + 1 by omega, upd_eq]
    · rw [upd_ne g, upd_ne (by omega)]; exact hO j hj
  · rw [eC] at hj
    rw [e, upd_ne (by omega)]; exact hC j hj
theorem lx_set (hV : VAL z) (hn : nk ≤ 6) (hN : NN z nk nf) (hO : RO z rf) (hC : CO z cf) (h6 : nR z ≤ 6) {q : Nat} {v : Int32} (hq : q < 3) (hv : isValB (nI q) v = true) (pe cn rk : ZZ) :
    LV3 (upd z q v) false pe cn rk (nK nk) (upd (upd nf 2 (nI (nK nk))) (3 + q) v) rf cf := by
  have eR : nR (upd z q v) = nR z := nR_upd (by omega)
  have eC : nC (upd z q v) = nC z := nC_upd (by omega)
  obtain ⟨n0, n1, n2, n3, n4, n5⟩ := hN
  refine ⟨val_set hV hq hv, lkf, nK_le hn, by omega, ⟨?_, ?_, ?_, ?_, ?_, ?_⟩, fun j hj => ?_, fun j hj => ?_⟩
  · rw [upd_ne (by omega), upd_ne (by omega), n0, eR]
  · rw [upd_ne (by omega), upd_ne (by omega), n1, eC]
  · rw [upd_ne (by omega), upd_eq]
  · by_cases g : q = 0
    · subst g; rw [upd_eq, upd_eq]
    · rw [upd_ne (by omega), upd_ne (by omega), n3, upd_ne (by omega)]
  · by_cases g : q = 1
    · subst g; rw [upd_eq, upd_eq]
    · rw [upd_ne (by omega), upd_ne (by omega), n4, upd_ne (by omega)]
  · by_cases g : q = 2
    · subst g; rw [upd_eq, upd_eq]
    · rw [upd_ne (by omega), upd_ne (by omega), n5, upd_ne (by omega)]
  · rw [eR] at hj
    rw [upd_ne (by omega)]; exact hO j hj
  · rw [eC] at hj
    rw [upd_ne (by omega)]; exact hC j hj
/-- people -/
theorem lx_bits (hN : NN z nk nf) (hn : nk ≤ 6) (hO : RO z rf) (hC : CO z cf) (h6 : nR z ≤ 6) {r : Nat} (hr : r < nR z) {v : Int32} (hV' : VAL (upd z (5 + 4 * r + 3) v)) (pe cn rk : ZZ) :
    LV3 (upd z (5 + 4 * r + 3) v) false pe cn rk (nK nk) (upd nf 2 (nI (nK nk))) (upd rf (4 * r + 3) v) cf := by
  have eR : nR (upd z (5 + 4 * r + 3) v) = nR z := nR_upd (by omega)
  have eC : nC (upd z (5 + 4 * r + 3) v) = nC z := nC_upd (by omega)
  have hR := wf_R10 hV'.1
  rw [eR] at hR
  obtain ⟨n0, n1, n2, n3, n4, n5⟩ := hN
  refine ⟨hV', lkf, nK_le hn, by omega, ⟨?_, ?_, upd_eq, ?_, ?_, ?_⟩, fun j hj => ?_, fun j hj => ?_⟩
  · rw [upd_ne (by omega), n0, eR]
  · rw [upd_ne (by omega), n1, eC]
  · rw [upd_ne (by omega), n3, upd_ne (by omega)]
  · rw [upd_ne (by omega), n4, upd_ne (by omega)]
  · rw [upd_ne (by omega), n5, upd_ne (by omega)]
  · by_cases g : j = 4 * r + 3
    · rw [g, upd_eq, show 5 + (4 * r + 3) = 5 + 4 * r + 3 by omega, upd_eq]
    · rw [eR] at hj
      rw [upd_ne g, upd_ne (by omega)]; exact hO j hj
  · rw [eC] at hj
    rw [upd_ne (by omega)]; exact hC j hj
theorem tk_b {r s : Nat} (hs : s < 31) : tk z r s = bt (z (5 + 4 * r + 3)) s := by unfold tk; exact tk_bt _ hs
theorem xor_take {r s : Nat} (hs : s < 31) (h : tk z r s = false) : z (5 + 4 * r + 3) ^^^ (nI 1 <<< (nI s &&& 31)) = z (5 + 4 * r + 3) ||| (nI 1 <<< (nI s &&& 31)) := by
  rw [tk_b hs] at h
  refine b_ext (fun i hi => ?_)
  rw [b_xor, b_or, one_shl_bt hs hi]
  by_cases g : i = s
  · subst g; rw [h]; simp
  · rw [decide_eq_false g]; simp
theorem xor_leave {r s : Nat} (hs : s < 31) (h : tk z r s = true) : z (5 + 4 * r + 3) ^^^ (nI 1 <<< (nI s &&& 31)) = z (5 + 4 * r + 3) &&& ((nI 1 <<< (nI s &&& 31)) ^^^ (-1)) := by
  rw [tk_b hs] at h
  refine b_ext (fun i hi => ?_)
  rw [b_xor, b_and, b_xor, one_shl_bt hs hi, b_m1 i hi]
  by_cases g : i = s
  · subst g; rw [h]; simp
  · rw [decide_eq_false g]; simp
theorem lx_take (hV : VAL z) (hN : NN z nk nf) (hn : nk ≤ 6) (hO : RO z rf) (hC : CO z cf) (h6 : nR z ≤ 6) {r s : Nat} (hr : r < nR z) (hs : s < nS z r) (ht : tk z r s = false) (pe cn rk : ZZ) :
    LV3 (takeZ z r s) false pe cn rk (nK nk) (upd nf 2 (nI (nK nk))) (upd rf (4 * r + 3) (z (5 + 4 * r + 3) ^^^ (nI 1 <<< (nI s &&& 31)))) cf := by
  have hS := wf_S12 hV.1 hr
  rw [xor_take (by omega) ht]
  refine lx_bits hN hn hO hC h6 hr ?_ pe cn rk
  show VAL (takeZ z r s)
  rw [← occ_take]; exact val_occ hV hr (by omega)
theorem lx_leave (hV : VAL z) (hN : NN z nk nf) (hn : nk ≤ 6) (hO : RO z rf) (hC : CO z cf) (h6 : nR z ≤ 6) {r s : Nat} (hr : r < nR z) (hs : s < nS z r) (ht : tk z r s = true) (pe cn rk : ZZ) :
    LV3 (leaveZ z r s) false pe cn rk (nK nk) (upd nf 2 (nI (nK nk))) (upd rf (4 * r + 3) (z (5 + 4 * r + 3) ^^^ (nI 1 <<< (nI s &&& 31)))) cf := by
  have hS := wf_S12 hV.1 hr
  rw [xor_leave (by omega) ht]
  refine lx_bits hN hn hO hC h6 hr ?_ pe cn rk
  show VAL (leaveZ z r s)
  rw [← vac_leave]; exact val_vac hV hr
theorem lx_party (hV : VAL z) (hN : NN z nk nf) (hn : nk ≤ 6) (hO : RO z rf) (hC : CO z cf) (h6 : nR z ≤ 6) {r f m : Nat} (hr : r < nR z) (hf : f + m ≤ nS z r) (pe cn rk : ZZ) :
    LV3 (partyZ z r f m) false pe cn rk (nK nk) (upd nf 2 (nI (nK nk))) (upd rf (4 * r + 3) (partyZ z r f m (5 + 4 * r + 3))) cf := by
  have hS := wf_S12 hV.1 hr
  rw [party_occ z r f (by omega)]
  have e : occZ z r f m (5 + 4 * r + 3) = z (5 + 4 * r + 3) ||| bitsI f m := upd_eq
  rw [e]
  exact lx_bits hN hn hO hC h6 hr (val_occ hV hr hf) pe cn rk
theorem lx_clr (hV : VAL z) (hN : NN z nk nf) (hn : nk ≤ 6) (hO : RO z rf) (hC : CO z cf) (h6 : nR z ≤ 6) (pe cn rk : ZZ) :
    LV3 (clrZ z) false pe cn rk (nK nk) (upd nf 2 (nI (nK nk))) (zrR rf (nR z)) cf := by
  have lo : ∀ j, j < 5 → clrZ z j = z j := fun j hj => by unfold clrZ clrS; rw [if_neg (by omega)]
  have eR : nR (clrZ z) = nR z := by unfold nR; rw [lo 3 (by omega)]
  have eC : nC (clrZ z) = nC z := by unfold nC; rw [lo 4 (by omega)]
  obtain ⟨n0, n1, n2, n3, n4, n5⟩ := hN
  refine ⟨val_clr hV, lkf, nK_le hn, by omega, ⟨?_, ?_, upd_eq, ?_, ?_, ?_⟩, fun j hj => ?_, fun j hj => ?_⟩
  · rw [upd_ne (by omega), n0, eR]
  · rw [upd_ne (by omega), n1, eC]
  · rw [upd_ne (by omega), n3, lo 0 (by omega)]
  · rw [upd_ne (by omega), n4, lo 1 (by omega)]
  · rw [upd_ne (by omega), n5, lo 2 (by omega)]
  · rw [eR] at hj
    unfold zrR clrZ clrS
    by_cases g : j % 4 = 3
    · rw [if_pos ⟨hj, g⟩, if_pos (by omega)]
    · rw [if_neg (fun q => g q.2), if_neg (by omega)]; exact hO j hj
  · rw [eC] at hj
    have e : clrZ z (45 + j) = z (45 + j) := by unfold clrZ clrS; rw [if_neg (by omega)]
    rw [e]; exact hC j hj
end LVS
end
section
/-! small words of the law's three acts -/
theorem shR_at {z rf : ZZ} (h : RO z rf) {k : Nat} (h0 : 0 < k) (hk : k ≤ nR z) : shR rf k (nR z) 0 (4 * k - 4) = z (5 + 4 * (k - 1)) := by
  unfold shR
  rw [if_neg (by omega)]
  exact (h _ (by omega)).trans (congrArg z (by omega))
theorem can_of {z : ZZ} {d : Int32} (h10 : nR z < 10) (h : ∀ j, j < nR z → ¬ z (5 + 4 * j) = d) : canAdd z d = true := by
  unfold canAdd
  rw [decide_eq_true h10, Bool.true_and]
  exact allN_t fun k hk => by rw [decide_eq_false (h k hk)]; rfl
theorem nn_k {z nf : ZZ} {nk : Nat} (h : NN z nk nf) {k : Nat} (hk : k < 3) : nf (3 + k) = z k := by
  obtain ⟨n0, n1, n2, n3, n4, n5⟩ := h
  rcases (show k = 0 ∨ k = 1 ∨ k = 2 by omega) with rfl | rfl | rfl
  · exact n3
  · exact n4
  · exact n5
theorem wn_nI {a b n : Nat} (ha : a < 2 ^ 31) (hb : b < 2 ^ 31) (hn : n < 2 ^ 31) (h1 : a ≤ n) (h2 : n ≤ b) : wthn (nI n) (nI a) (nI b) = true := by
  unfold wthn
  rw [decide_eq_false (fun q => by have := (nI_ltI hn ha).mp q; omega), decide_eq_false (fun q => by have := (nI_ltI hb hn).mp q; omega)]; rfl
theorem vs_0 {k v : Nat} (h : k = 0) (hv : v ≤ 999) : isValB (nI k) (nI v) = true := by
  subst h; unfold isValB; rw [if_pos (by decide)]; exact wn_nI (by omega) (by omega) (by omega) (by omega) hv
theorem vs_1 {k v : Nat} (h : k = 1) (h1 : 1 ≤ v) (hv : v ≤ 300) : isValB (nI k) (nI v) = true := by
  subst h; unfold isValB; rw [if_neg (by decide), if_pos rfl]; exact wn_nI (by omega) (by omega) (by omega) h1 hv
theorem vs_2 {k v : Nat} (h : k = 2) (hv : v ≤ 100) : isValB (nI k) (nI v) = true := by
  subst h; unfold isValB; rw [if_neg (by decide), if_neg (by decide)]; exact wn_nI (by omega) (by omega) (by omega) (by omega) hv
theorem side6_0 : ∀ k, k < 13 → ¬ (nI k - nI 6) < -12 ∧ (nI k - nI 6) ≤ nI 12 := by decide +kernel
theorem side6 {k : Nat} (h : k < 13) : ¬ (nI k - nI 6) < -12 ∧ (nI k - nI 6) ≤ nI 12 := side6_0 k h
theorem pz_0 {z rf : ZZ} (h : RO z rf) {r : Nat} (hr : r < nR z) (f : Nat) : rf = upd rf (4 * r + 3) (partyZ z r f 0 (5 + 4 * r + 3)) := by
  have e : partyZ z r f 0 (5 + 4 * r + 3) = rf (4 * r + 3) := (ro_3 h hr).symm
  rw [e, upd_same]
theorem pz_s (z : ZZ) (r f k : Nat) : partyZ z r f (k + 1) (5 + 4 * r + 3) = partyZ z r f k (5 + 4 * r + 3) ||| (nI 1 <<< (nI (f + k) &&& 31)) := by
  show takeZ (partyZ z r f k) r (f + k) (5 + 4 * r + 3) = _
  unfold takeZ
  exact upd_eq
theorem b2_1 {b : Bool} (h : b2 b = 1) : b = true := by cases b; exact absurd h (by decide); rfl
theorem b2_n {b : Bool} (h : ¬ b2 b = 1) : b = false := by cases b; rfl; exact absurd rfl h
end
