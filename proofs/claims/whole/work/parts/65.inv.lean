/-! what holds between two calls of the law, call by call -/
theorem rowR {z : ZZ} (hw : WF z) {ro : Int32} (h : isRowB z ro = true) : cl ro < nR z := by
  obtain ⟨r, hr, rfl⟩ := isRow_out hw h
  have := wf_R10 hw
  rw [cl_nI (by omega)]; exact hr
theorem colR {z : ZZ} (hw : WF z) {co : Int32} (h : isColB z co = true) : cl co < nC z := by
  obtain ⟨r, hr, rfl⟩ := isCol_out hw h
  have := wf_C4 hw
  rw [cl_nI (by omega)]; exact hr
theorem seatR {z : ZZ} (hw : WF z) {ro se : Int32} (h : isSeatB z ro se = true) : cl ro < nR z ∧ cl se < nS z (cl ro) := by
  obtain ⟨r, s, hr, hs, rfl, rfl⟩ := isSeat_out hw h
  have h1 := wf_R10 hw
  have h2 := wf_S12 hw hr
  rw [cl_nI (show r < 2 ^ 31 by omega), cl_nI (show s < 2 ^ 31 by omega)]
  exact ⟨hr, hs⟩
theorem t1_0 {b : Bool} {n : Nat} (hn : n ≠ 0) (h : (if b = true then 0 else n) = 0) : b = true := by
  cases b with
  | true => rfl
  | false => exact absurd (by simpa using h) hn
theorem t2_0 {b c : Bool} {m n : Nat} (hm : m ≠ 0) (hn : n ≠ 0) (h : (if b = true then (if c = true then 0 else m) else n) = 0) : b = true ∧ c = true := by
  cases b with
  | true => exact ⟨rfl, t1_0 hm (by simpa using h)⟩
  | false => exact absurd (by simpa using h) hn
theorem v_addRow {z : ZZ} (hA : VAL z) {d h s : Int32} (hT : tAddRow z d h s = 0) : VAL (insZ z d h s) := by
  obtain ⟨h1, h2⟩ := t2_0 (by decide) (by decide) hT
  rw [Bool.and_eq_true, Bool.and_eq_true] at h1
  exact val_ins hA h2 (wt_rng (lo := 1) (hi := 999) (by omega) (by omega) h1.1.1) (wt_rng (lo := 0) (hi := 999) (by omega) (by omega) h1.1.2) (wthn13_out h1.2)
theorem v_removeRow {z : ZZ} (hA : VAL z) {ro : Int32} (hT : tRow z ro = 0) : VAL (delZ z (cl ro)) := val_del hA (rowR hA.1 (t1_0 (by decide) hT))
theorem v_lift {z : ZZ} (hA : VAL z) {ro h : Int32} (hT : tLift z ro h = 0) : VAL (liftZ z (cl ro) h) := by
  obtain ⟨h1, h2⟩ := t2_0 (by decide) (by decide) hT
  exact val_h hA (cl ro) (wt_rng (lo := 0) (hi := 999) (by omega) (by omega) h2)
theorem v_addColumn {z : ZZ} (hA : VAL z) {d s h : Int32} (hT : tAddCol z d s h = 0) : VAL (addC z d s h) := by
  have h4 := wf_C4 hA.1
  unfold tAddCol at hT
  split at hT
  · split at hT
    · cases hT
    · exact val_addC hA (by omega) d s h
  · cases hT
theorem v_removeColumn {z : ZZ} (hA : VAL z) {co : Int32} (hT : tCol z co = 0) : VAL (dlcZ z (cl co)) := val_dlc hA (colR hA.1 (t1_0 (by decide) hT))
theorem v_set {z : ZZ} (hA : VAL z) {s v : Int32} (hT : tSet s v = 0) : VAL (upd z (cl s) v) := by
  obtain ⟨h1, h2⟩ := t2_0 (by decide) (by decide) hT
  obtain ⟨q, hq, rfl⟩ := wthn3_out h1
  rw [cl_nI (show q < 2 ^ 31 by omega)]
  exact val_set hA hq h2
theorem v_take {z : ZZ} (hA : VAL z) {ro se : Int32} (hT : tTake z ro se = 0) : VAL (takeZ z (cl ro) (cl se)) := by
  unfold tTake at hT
  split at hT
  · rename_i h1
    obtain ⟨hr, hs⟩ := seatR hA.1 h1
    rw [← occ_take]; exact val_occ hA hr (by omega)
  · cases hT
theorem v_leave {z : ZZ} (hA : VAL z) {ro se : Int32} (hT : tLeave z ro se = 0) : VAL (leaveZ z (cl ro) (cl se)) := by
  unfold tLeave at hT
  split at hT
  · rename_i h1
    obtain ⟨hr, hs⟩ := seatR hA.1 h1
    rw [← vac_leave]; exact val_vac hA hr
  · cases hT
theorem v_seatParty {z : ZZ} (hA : VAL z) {mm : Int32} (hT : tParty z mm = 0) : VAL (partyZ z (cl (placeForI z (cl mm)) / 100) (cl (placeForI z (cl mm)) % 100) (cl mm)) := by
  unfold tParty at hT
  split at hT
  · rename_i h1
    obtain ⟨m, hm1, hm2, rfl⟩ := wthn13_out h1
    rw [cl_nI (show m < 2 ^ 31 by omega)] at hT ⊢
    split at hT
    · cases hT
    · rename_i h2
      obtain ⟨r, f, hr, hf, e⟩ := placeFor_out hm1 h2
      have hS := wf_S12 hA.1 hr
      have hR := wf_R10 hA.1
      rw [e, cl_nI (by omega), show (100 * r + f) / 100 = r by omega, show (100 * r + f) % 100 = f by omega, party_occ z r f (by omega)]
      exact val_occ hA hr hf
  · cases hT
theorem v_addAll {z : ZZ} (hA : VAL z) {ts tn : ZZ} {tl : Nat} (hT : TS ts tl) (hl : tl ≤ 60) (hc : cmpB ts tn tl = true) : VAL (adZ z (finC ts tn tl).2.2 (adN z (finC ts tn tl).2.2 ((finC ts tn tl).1 / 3 + 1))) := by
  obtain ⟨-, h2⟩ := fin_hok (f := tn) hT hl hc
  exact val_adZ hA (n := (finC ts tn tl).1 / 3) h2 (by have := adN_le z (finC ts tn tl).2.2 ((finC ts tn tl).1 / 3 + 1); omega) (adN_in _ _ _)
theorem ad_all {z ts tx tn pa : ZZ} {tl : Nat} (hT : TS ts tl) (hx : ∀ j, j < tl → tx j = ts j) (hc : cmpB ts tn tl = true) : adN z (finP tx pa tl).2.2.2 ((finP tx pa tl).1 + 1) = adN z (finC ts tn tl).2.2 ((finC ts tn tl).1 / 3 + 1) ∧ adZ z (finP tx pa tl).2.2.2 (adN z (finP tx pa tl).2.2.2 ((finP tx pa tl).1 + 1)) = adZ z (finC ts tn tl).2.2 (adN z (finC ts tn tl).2.2 ((finC ts tn tl).1 / 3 + 1)) := by
  obtain ⟨a1, a2⟩ := fin_rr (f := tn) (pa := pa) hT hx hc
  have e1 : (finC ts tn tl).1 / 3 + 1 = (finP tx pa tl).1 + 1 := by omega
  have e2 : adN z (finP tx pa tl).2.2.2 ((finP tx pa tl).1 + 1) = adN z (finC ts tn tl).2.2 ((finP tx pa tl).1 + 1) := adN_c z (fun j hj => (a2 j (by omega)).symm)
  have e3 := adN_le z (finC ts tn tl).2.2 ((finP tx pa tl).1 + 1)
  rw [e1, e2]
  exact ⟨rfl, adZ_c z (fun j hj => (a2 j (by omega)).symm)⟩
theorem a_seat {z : ZZ} (hA : VAL z) (wy : ZZ) {ro se wh : Int32} (hT : tSeatW z ro se wh = 0) : seatC z (cl ro) (cl se) (cl wh) = seatI z wy (cl ro) (cl se) (cl wh) := by
  obtain ⟨h1, h2⟩ := t2_0 (by decide) (by decide) hT
  obtain ⟨hr, hs⟩ := seatR hA.1 h1
  obtain ⟨w, hw, rfl⟩ := wthn7_out h2
  rw [cl_nI (show w < 2 ^ 31 by omega)]
  exact seat_CI hA.1 wy hr hs hw
theorem lcI_s (x : Int64) : lcI x x = 0 := by
  unfold lcI
  rw [if_neg (by show ¬ x < x; exact Int64.lt_irrefl), if_pos (by simp)]
theorem vpL_0 (f : Nat → Int64) (v : Int64) : vp_updL f 0 v 0 = v := by unfold vp_updL; simp
theorem and31 (x : Int32) : ∃ k, k < 32 ∧ x &&& nI 31 = nI k := by
  have h : ∀ b : BitVec 32, (b &&& 31#32).toNat < 32 := fun b => by
    rw [BitVec.toNat_and]; exact Nat.lt_of_le_of_lt Nat.and_le_right (by decide)
  refine ⟨(x.toBitVec &&& 31#32).toNat, h _, ?_⟩
  refine Int32.toBitVec_inj.mp ?_
  rw [Int32.toBitVec_and]
  show x.toBitVec &&& 31#32 = BitVec.ofNat 32 _
  rw [BitVec.ofNat_toNat, BitVec.setWidth_eq]
theorem lk_false {z pe cn rk : ZZ} : (false = true) → LKR z pe cn rk := fun h => by cases h
