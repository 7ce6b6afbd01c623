set_option maxRecDepth 20000 in
theorem iX4_firstError_4 : ∀ w ∈ wsX40, w ∈ wsX4_firstError := by decide +kernel
set_option maxHeartbeats 4000000 in
set_option maxRecDepth 100000 in
theorem c_X4_firstError (l : Launch) (D : va_G) (cI cC cH cL : ClassId) (y : Nat → Nat) (x b v u o h t : Nat → Nat) (ts tn : ZZ) (tl tt : Nat) (tb : Bool)  (hl : tl ≤ 60) : Met l yX4_firstError wsX4_firstError ({ frames := 2, cells := 0, slots := 0, locals := 46 }) (kwz y [.ref (x 0)] D ([(x 0, .inr (4, [.ref (v 0), .ref (b 0), .ref (o 0), .ref (h 0), .ref (t 0)]))] ++ (TW t cC cI ts (nI tl) tn (nI tt) (bI tb))) (kT cI cC cH cL)) (kq D ([(x 0, .inr (4, [.ref (v 0), .ref (b 0), .ref (o 0), .ref (h 0), .ref (t 0)]))] ++ (TW t cC cI ts (nI tl) tn (nI tt) (bI tb))) ([(x 0, .inr (4, [.ref (v 0), .ref (b 0), .ref (o 0), .ref (h 0), .ref (t 0)]))] ++ (TW t cC cI ts (nI tl) ((finC ts tn tl).2.2) (nI ((finC ts tn tl).1)) (bI ((finC ts tn tl).2.1)))) (.returned (some (.int (nI (eC ts tn tl)))))) 0 0 (kA ([(x 0, .inr (4, [.ref (v 0), .ref (b 0), .ref (o 0), .ref (h 0), .ref (t 0)]))] ++ (TW t cC cI ts (nI tl) tn (nI tt) (bI tb)))) := by
  refine Met.ofW (cc := cX4_firstError) (maxL := 1) (ret := (some .int)) (by decide) rfl ?_
  intro p e s m args below meth c s₁ B hml hv
  obtain ⟨⟨rfl, hP, hK, hD0⟩, hZ⟩ := hv
  have hx := B.exec
  have hb := B.bytes
  have hrt := B.returns
  have hts := atoms_spec (ws := wsX4_firstError) B.pre
  have hown : s.vm.findClass RX4 = some m.cls := findClass_of_methodNamed B.named
  have hlocks := B.notSynchronized
  have hl := lv_entry ([.ref (x 0)]) (n := 1) (Nat.le_of_ble_eq_true rfl)
  rw [lg_entry_eq]
  generalize (lg_sl ([.ref (x 0)]) ++ List.replicate (1 - (lg_sl ([.ref (x 0)])).length) Slot.unset).toArray = ls at hl ⊢
  have hl : lv_has ls 1 [(0, .ref (x 0))] := hl
  have hD := kA_self hD0
  obtain ⟨w0, hw0⟩ : ∃ w : va_W, w = [(x 0, .inr (4, [.ref (v 0), .ref (b 0), .ref (o 0), .ref (h 0), .ref (t 0)]))] ++ (TW t cC cI ts (nI tl) tn (nI tt) (bI tb)) := ⟨_, rfl⟩
  have hD : va_D (kA w0) ([(x 0, .inr (4, [.ref (v 0), .ref (b 0), .ref (o 0), .ref (h 0), .ref (t 0)]))] ++ (TW t cC cI ts (nI tl) tn (nI tt) (bI tb))) := by rw [hw0]; exact hD
  have hS : va_S (kA w0) s.heap s.heap [] := va_S.rf
  have hZ : zZ y (kA w0) s s.heap := by rw [hw0]; exact hZ
  rw [show kA ([(x 0, .inr (4, [.ref (v 0), .ref (b 0), .ref (o 0), .ref (h 0), .ref (t 0)]))] ++ (TW t cC cI ts (nI tl) tn (nI tt) (bI tb))) = kA w0 from by rw [hw0], show kq D ([(x 0, .inr (4, [.ref (v 0), .ref (b 0), .ref (o 0), .ref (h 0), .ref (t 0)]))] ++ (TW t cC cI ts (nI tl) tn (nI tt) (bI tb))) = kq D w0 from by rw [hw0]]
  have hP : va_P D vwCl ([(x 0, .inr (4, [.ref (v 0), .ref (b 0), .ref (o 0), .ref (h 0), .ref (t 0)]))] ++ (TW t cC cI ts (nI tl) tn (nI tt) (bI tb))) s.heap := hP
  refine lv_aload_n hx hb dX4_firstError_0 rfl (lv_at hl 0 rfl) ?_
  refine va_get (D := D) (ci := 4) (v := .ref (t 0)) (C := RX4) (T := TX4) (N := 5) hx hb hts iX4_firstError_4 hown hK hP 0 rfl rfl 4 (by decide) (hts (.fieldLink RX4 34 "HallSights" "text" "LHallSights$RowsText;") (List.mem_of_getElem? (i := 1) rfl)) (fun _ h9 => h9) rfl dX4_firstError_1 ?_
  refine kz_V (As := []) (rest := []) (C := RX2) (own := RX4) ⟨hx, hb, hml, hown, hts⟩ (c_X2_read l D cI cC cH cL y t ts tn tl tt tb  (by first | assumption | omega)) (cwV 0 hts gX4_firstError_X2_read rfl rfl rfl k_X2_read ⟨Nat.le_of_ble_eq_true rfl, Nat.le_of_ble_eq_true rfl⟩) hP hD hK hS hZ [1, 2, 3] [0] rfl rfl (wr := ([(x 0, .inr (4, [.ref (v 0), .ref (b 0), .ref (o 0), .ref (h 0), .ref (t 0)]))])) rfl (by decide) (by decide) (by decide) (va_recv (q := (RX2, TX2, 5)) hK hP (ci := 2) (q0 := 1) rfl rfl) rfl hl.1 rfl (Nat.le_of_ble_eq_true rfl) dX4_firstError_4 ⟨Nat.le_of_ble_eq_true rfl, Nat.le_of_ble_eq_true rfl⟩ (fun H locs hP hD hS => ?_)
  have hP : va_P D vwCl ([(x 0, .inr (4, [.ref (v 0), .ref (b 0), .ref (o 0), .ref (h 0), .ref (t 0)]))] ++ (TW t cC cI ts (nI tl) ((finC ts tn tl).2.2) (nI ((finC ts tn tl).1)) (bI ((finC ts tn tl).2.1)))) H := hP.sub [0, 1, 2, 3] rfl
  have hD : va_D (kA w0) ([(x 0, .inr (4, [.ref (v 0), .ref (b 0), .ref (o 0), .ref (h 0), .ref (t 0)]))] ++ (TW t cC cI ts (nI tl) ((finC ts tn tl).2.2) (nI ((finC ts tn tl).1)) (bI ((finC ts tn tl).2.1)))) := hD.sub [0, 1, 2, 3] (by decide) rfl
  subst hw0
  exact kq_iret hx hb hrt hlocks rfl hP hD hS dX4_firstError_7
