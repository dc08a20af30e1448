set_option maxHeartbeats 4000000 in
set_option maxRecDepth 100000 in
theorem c_X0_firstRow (l : Launch) (dC : Nat → ClassId) (dI : Nat → Nat → Nat) (cI : ClassId) (oF : Nat) (oN : Nat) (oS : Nat) (rv : Nat) (rs : Nat) (cnt : Int32) (v : Nat → Int32) (f : Nat) (hI : n_I v) (hf : f < 4) : Met l yX0_firstRow wsX0_firstRow ({ frames := 1, cells := 0, slots := 0, locals := 21 }) (kq_R dC dI cI [.ref oF, .int (nI f)] [(oF, .inr (0, [.ref oS, .ref oN])), (oS, .inr (3, [.ref rv, .ref rs, .int cnt])), (rv, .inl (cI, 385, .inl v))]) (QcRead (nI (n_f v f 0))) 0 0 (fun _ => False) := by
  refine kq_start (cc := cX0_firstRow) (maxL := 2) (ret := (some .int)) (plainFor_of_name (by decide)) rfl (Nat.le_of_ble_eq_true rfl) ?_
  intro p e s m below meth c hx hb hr hml hown hlocks hts hP hK ls hl
  have hown : s.vm.findClass RX0 = some m.cls := hown
  have hl : lv_has ls 2 [(0, .ref oF), (1, .int (nI f))] := hl
  refine lv_aload_n hx hb dX0_firstRow_0 rfl (lv_at hl 0 rfl) ?_
  refine va_get (D := (dC, dI)) (ci := 0) (v := .ref oS) (C := RX0) (T := TX0) (N := 2) hx hb hts (by decide +kernel) hown hK.1 hP 0 rfl rfl 0 (by decide) (hts (.fieldLink RX0 9 "NoteWatermarks$Figures" "state" "LNoteWatermarks$State;") (by decide +kernel)) (fun _ h9 => h9) rfl dX0_firstRow_1 ?_
  refine lv_iload_n hx hb dX0_firstRow_4 rfl (lv_at hl 1 rfl) ?_
  refine lv_iconst (v := 0) hx hb dX0_firstRow_5 (by decide) ?_
  refine kq_cS (As := [.int (nI f), .int 0]) (rest := [.ref oS]) ⟨hx, hb, hml, hown, hts⟩ (c_X3_figurePlace l dC dI cI f 0 ) (va_cwS 2 hts gX0_firstRow_X3_figurePlace rfl rfl rfl (by decide +kernel) ⟨Nat.le_of_ble_eq_true rfl, Nat.le_of_ble_eq_true rfl⟩) (hP.sub [] rfl) hK rfl hl.1 rfl (Nat.le_of_ble_eq_true rfl) dX0_firstRow_6 ⟨Nat.le_of_ble_eq_true rfl, Nat.le_of_ble_eq_true rfl⟩ ?_
  refine kq_cV (As := [.int (nI (366 + f * 4 + 0))]) (rest := []) ⟨hx, hb, hml, hown, hts⟩ (c_X3_at l dC dI cI oS rv rs cnt v (366 + f * 4 + 0) (by first | assumption | omega)) (cwV 1 hts gX0_firstRow_X3_at rfl rfl rfl (by decide +kernel) ⟨Nat.le_of_ble_eq_true rfl, Nat.le_of_ble_eq_true rfl⟩) (hP.sub [1, 2] rfl) hK (ci := 3) (q0 := 0) rfl rfl rfl rfl hl.1 rfl (Nat.le_of_ble_eq_true rfl) dX0_firstRow_9 ⟨Nat.le_of_ble_eq_true rfl, Nat.le_of_ble_eq_true rfl⟩ ?_
  refine kq_top (z := nI (n_f v f 0)) (n_I_f hI hf (by decide)) ?_
  exact kq_ret hx hb hr hlocks dX0_firstRow_12 (by rfl)
set_option maxHeartbeats 4000000 in
set_option maxRecDepth 100000 in
theorem c_X0_firstColumn (l : Launch) (dC : Nat → ClassId) (dI : Nat → Nat → Nat) (cI : ClassId) (oF : Nat) (oN : Nat) (oS : Nat) (rv : Nat) (rs : Nat) (cnt : Int32) (v : Nat → Int32) (f : Nat) (hI : n_I v) (hf : f < 4) : Met l yX0_firstColumn wsX0_firstColumn ({ frames := 1, cells := 0, slots := 0, locals := 21 }) (kq_R dC dI cI [.ref oF, .int (nI f)] [(oF, .inr (0, [.ref oS, .ref oN])), (oS, .inr (3, [.ref rv, .ref rs, .int cnt])), (rv, .inl (cI, 385, .inl v))]) (QcRead (nI (n_f v f 1))) 0 0 (fun _ => False) := by
  refine kq_start (cc := cX0_firstColumn) (maxL := 2) (ret := (some .int)) (plainFor_of_name (by decide)) rfl (Nat.le_of_ble_eq_true rfl) ?_
  intro p e s m below meth c hx hb hr hml hown hlocks hts hP hK ls hl
  have hown : s.vm.findClass RX0 = some m.cls := hown
  have hl : lv_has ls 2 [(0, .ref oF), (1, .int (nI f))] := hl
  refine lv_aload_n hx hb dX0_firstColumn_0 rfl (lv_at hl 0 rfl) ?_
  refine va_get (D := (dC, dI)) (ci := 0) (v := .ref oS) (C := RX0) (T := TX0) (N := 2) hx hb hts (by decide +kernel) hown hK.1 hP 0 rfl rfl 0 (by decide) (hts (.fieldLink RX0 9 "NoteWatermarks$Figures" "state" "LNoteWatermarks$State;") (by decide +kernel)) (fun _ h9 => h9) rfl dX0_firstColumn_1 ?_
  refine lv_iload_n hx hb dX0_firstColumn_4 rfl (lv_at hl 1 rfl) ?_
  refine lv_iconst (v := 1) hx hb dX0_firstColumn_5 (by decide) ?_
  refine kq_cS (As := [.int (nI f), .int 1]) (rest := [.ref oS]) ⟨hx, hb, hml, hown, hts⟩ (c_X3_figurePlace l dC dI cI f 1 ) (va_cwS 2 hts gX0_firstColumn_X3_figurePlace rfl rfl rfl (by decide +kernel) ⟨Nat.le_of_ble_eq_true rfl, Nat.le_of_ble_eq_true rfl⟩) (hP.sub [] rfl) hK rfl hl.1 rfl (Nat.le_of_ble_eq_true rfl) dX0_firstColumn_6 ⟨Nat.le_of_ble_eq_true rfl, Nat.le_of_ble_eq_true rfl⟩ ?_
  refine kq_cV (As := [.int (nI (366 + f * 4 + 1))]) (rest := []) ⟨hx, hb, hml, hown, hts⟩ (c_X3_at l dC dI cI oS rv rs cnt v (366 + f * 4 + 1) (by first | assumption | omega)) (cwV 1 hts gX0_firstColumn_X3_at rfl rfl rfl (by decide +kernel) ⟨Nat.le_of_ble_eq_true rfl, Nat.le_of_ble_eq_true rfl⟩) (hP.sub [1, 2] rfl) hK (ci := 3) (q0 := 0) rfl rfl rfl rfl hl.1 rfl (Nat.le_of_ble_eq_true rfl) dX0_firstColumn_9 ⟨Nat.le_of_ble_eq_true rfl, Nat.le_of_ble_eq_true rfl⟩ ?_
  refine kq_top (z := nI (n_f v f 1)) (n_I_f hI hf (by decide)) ?_
  exact kq_ret hx hb hr hlocks dX0_firstColumn_12 (by rfl)
set_option maxHeartbeats 4000000 in
set_option maxRecDepth 100000 in
theorem c_X0_rows (l : Launch) (dC : Nat → ClassId) (dI : Nat → Nat → Nat) (cI : ClassId) (oF : Nat) (oN : Nat) (oS : Nat) (rv : Nat) (rs : Nat) (cnt : Int32) (v : Nat → Int32) (f : Nat) (hI : n_I v) (hf : f < 4) : Met l yX0_rows wsX0_rows ({ frames := 1, cells := 0, slots := 0, locals := 21 }) (kq_R dC dI cI [.ref oF, .int (nI f)] [(oF, .inr (0, [.ref oS, .ref oN])), (oS, .inr (3, [.ref rv, .ref rs, .int cnt])), (rv, .inl (cI, 385, .inl v))]) (QcRead (nI (n_f v f 2))) 0 0 (fun _ => False) := by
  refine kq_start (cc := cX0_rows) (maxL := 2) (ret := (some .int)) (plainFor_of_name (by decide)) rfl (Nat.le_of_ble_eq_true rfl) ?_
  intro p e s m below meth c hx hb hr hml hown hlocks hts hP hK ls hl
  have hown : s.vm.findClass RX0 = some m.cls := hown
  have hl : lv_has ls 2 [(0, .ref oF), (1, .int (nI f))] := hl
  refine lv_aload_n hx hb dX0_rows_0 rfl (lv_at hl 0 rfl) ?_
  refine va_get (D := (dC, dI)) (ci := 0) (v := .ref oS) (C := RX0) (T := TX0) (N := 2) hx hb hts (by decide +kernel) hown hK.1 hP 0 rfl rfl 0 (by decide) (hts (.fieldLink RX0 9 "NoteWatermarks$Figures" "state" "LNoteWatermarks$State;") (by decide +kernel)) (fun _ h9 => h9) rfl dX0_rows_1 ?_
  refine lv_iload_n hx hb dX0_rows_4 rfl (lv_at hl 1 rfl) ?_
  refine lv_iconst (v := 2) hx hb dX0_rows_5 (by decide) ?_
  refine kq_cS (As := [.int (nI f), .int 2]) (rest := [.ref oS]) ⟨hx, hb, hml, hown, hts⟩ (c_X3_figurePlace l dC dI cI f 2 ) (va_cwS 2 hts gX0_rows_X3_figurePlace rfl rfl rfl (by decide +kernel) ⟨Nat.le_of_ble_eq_true rfl, Nat.le_of_ble_eq_true rfl⟩) (hP.sub [] rfl) hK rfl hl.1 rfl (Nat.le_of_ble_eq_true rfl) dX0_rows_6 ⟨Nat.le_of_ble_eq_true rfl, Nat.le_of_ble_eq_true rfl⟩ ?_
  refine kq_cV (As := [.int (nI (366 + f * 4 + 2))]) (rest := []) ⟨hx, hb, hml, hown, hts⟩ (c_X3_at l dC dI cI oS rv rs cnt v (366 + f * 4 + 2) (by first | assumption | omega)) (cwV 1 hts gX0_rows_X3_at rfl rfl rfl (by decide +kernel) ⟨Nat.le_of_ble_eq_true rfl, Nat.le_of_ble_eq_true rfl⟩) (hP.sub [1, 2] rfl) hK (ci := 3) (q0 := 0) rfl rfl rfl rfl hl.1 rfl (Nat.le_of_ble_eq_true rfl) dX0_rows_9 ⟨Nat.le_of_ble_eq_true rfl, Nat.le_of_ble_eq_true rfl⟩ ?_
  refine kq_top (z := nI (n_f v f 2)) (n_I_f hI hf (by decide)) ?_
  exact kq_ret hx hb hr hlocks dX0_rows_12 (by rfl)
set_option maxHeartbeats 4000000 in
set_option maxRecDepth 100000 in
theorem c_X0_columns (l : Launch) (dC : Nat → ClassId) (dI : Nat → Nat → Nat) (cI : ClassId) (oF : Nat) (oN : Nat) (oS : Nat) (rv : Nat) (rs : Nat) (cnt : Int32) (v : Nat → Int32) (f : Nat) (hI : n_I v) (hf : f < 4) : Met l yX0_columns wsX0_columns ({ frames := 1, cells := 0, slots := 0, locals := 21 }) (kq_R dC dI cI [.ref oF, .int (nI f)] [(oF, .inr (0, [.ref oS, .ref oN])), (oS, .inr (3, [.ref rv, .ref rs, .int cnt])), (rv, .inl (cI, 385, .inl v))]) (QcRead (nI (n_f v f 3))) 0 0 (fun _ => False) := by
  refine kq_start (cc := cX0_columns) (maxL := 2) (ret := (some .int)) (plainFor_of_name (by decide)) rfl (Nat.le_of_ble_eq_true rfl) ?_
  intro p e s m below meth c hx hb hr hml hown hlocks hts hP hK ls hl
  have hown : s.vm.findClass RX0 = some m.cls := hown
  have hl : lv_has ls 2 [(0, .ref oF), (1, .int (nI f))] := hl
  refine lv_aload_n hx hb dX0_columns_0 rfl (lv_at hl 0 rfl) ?_
  refine va_get (D := (dC, dI)) (ci := 0) (v := .ref oS) (C := RX0) (T := TX0) (N := 2) hx hb hts (by decide +kernel) hown hK.1 hP 0 rfl rfl 0 (by decide) (hts (.fieldLink RX0 9 "NoteWatermarks$Figures" "state" "LNoteWatermarks$State;") (by decide +kernel)) (fun _ h9 => h9) rfl dX0_columns_1 ?_
  refine lv_iload_n hx hb dX0_columns_4 rfl (lv_at hl 1 rfl) ?_
  refine lv_iconst (v := 3) hx hb dX0_columns_5 (by decide) ?_
  refine kq_cS (As := [.int (nI f), .int 3]) (rest := [.ref oS]) ⟨hx, hb, hml, hown, hts⟩ (c_X3_figurePlace l dC dI cI f 3 ) (va_cwS 2 hts gX0_columns_X3_figurePlace rfl rfl rfl (by decide +kernel) ⟨Nat.le_of_ble_eq_true rfl, Nat.le_of_ble_eq_true rfl⟩) (hP.sub [] rfl) hK rfl hl.1 rfl (Nat.le_of_ble_eq_true rfl) dX0_columns_6 ⟨Nat.le_of_ble_eq_true rfl, Nat.le_of_ble_eq_true rfl⟩ ?_
  refine kq_cV (As := [.int (nI (366 + f * 4 + 3))]) (rest := []) ⟨hx, hb, hml, hown, hts⟩ (c_X3_at l dC dI cI oS rv rs cnt v (366 + f * 4 + 3) (by first | assumption | omega)) (cwV 1 hts gX0_columns_X3_at rfl rfl rfl (by decide +kernel) ⟨Nat.le_of_ble_eq_true rfl, Nat.le_of_ble_eq_true rfl⟩) (hP.sub [1, 2] rfl) hK (ci := 3) (q0 := 0) rfl rfl rfl rfl hl.1 rfl (Nat.le_of_ble_eq_true rfl) dX0_columns_9 ⟨Nat.le_of_ble_eq_true rfl, Nat.le_of_ble_eq_true rfl⟩ ?_
  refine kq_top (z := nI (n_f v f 3)) (n_I_f hI hf (by decide)) ?_
  exact kq_ret hx hb hr hlocks dX0_columns_12 (by rfl)
set_option maxHeartbeats 4000000 in
set_option maxRecDepth 100000 in
theorem c_X0_place (l : Launch) (dC : Nat → ClassId) (dI : Nat → Nat → Nat) (cI : ClassId) (sz : Nat) (oF : Nat) (oN : Nat) (oS : Nat) (rv : Nat) (rs : Nat) (cnt : Int32) (v : Nat → Int32) (f : Nat) (r : Nat) (d : Nat) (h : Nat) (w : Nat) (hf : f < 4) : Met l yX0_place wsX0_place ({ frames := 1, cells := 0, slots := 0, locals := 22 }) (kq_M dC dI cI [.ref oF, .int (nI f), .int (nI r), .int (nI d), .int (nI h), .int (nI w)] sz [(oF, .inr (0, [.ref oS, .ref oN])), (oS, .inr (3, [.ref rv, .ref rs, .int cnt])), (rv, .inl (cI, 385, .inl v))]) (va_Qv (fun (u : Unit) => True) (kq_B dC dI (va_A [(oF, .inr (0, [.ref oS, .ref oN])), (oS, .inr (3, [.ref rv, .ref rs, .int cnt])), (rv, .inl (cI, 385, .inl v))] sz) (fun u : Unit => [(oF, .inr (0, [.ref oS, .ref oN])), (oS, .inr (3, [.ref rv, .ref rs, .int cnt])), (rv, .inl (cI, 385, .inl (upd (upd (upd (upd v (366 + f * 4 + 0) (nI r)) (366 + f * 4 + 1) (nI d)) (366 + f * 4 + 2) (nI h)) (366 + f * 4 + 3) (nI w))))])) (va_A [(oF, .inr (0, [.ref oS, .ref oN])), (oS, .inr (3, [.ref rv, .ref rs, .int cnt])), (rv, .inl (cI, 385, .inl v))] sz)) 0 0 (va_A [(oF, .inr (0, [.ref oS, .ref oN])), (oS, .inr (3, [.ref rv, .ref rs, .int cnt])), (rv, .inl (cI, 385, .inl v))] sz) := by
  refine kq_startM (cc := cX0_place) (maxL := 6) (ret := none) (by decide) rfl (Nat.le_of_ble_eq_true rfl) ?_
  intro p e s m below meth c hx hb hr hml hown hlocks hts hsz hA hP hD hS hK hnm ls hl
  subst hsz
  generalize hAe : va_A [(oF, .inr (0, [.ref oS, .ref oN])), (oS, .inr (3, [.ref rv, .ref rs, .int cnt])), (rv, .inl (cI, 385, .inl v))] s.heap.size = A at hA hD hS ⊢
  have hown : s.vm.findClass RX0 = some m.cls := hown
  have hl : lv_has ls 6 [(0, .ref oF), (1, .int (nI f)), (2, .int (nI r)), (3, .int (nI d)), (4, .int (nI h)), (5, .int (nI w))] := hl
  refine lv_aload_n hx hb dX0_place_0 rfl (lv_at hl 0 rfl) ?_
  refine va_get (D := (dC, dI)) (ci := 0) (v := .ref oS) (C := RX0) (T := TX0) (N := 2) hx hb hts (by decide +kernel) hown hK.1 hP 0 rfl rfl 0 (by decide) (hts (.fieldLink RX0 9 "NoteWatermarks$Figures" "state" "LNoteWatermarks$State;") (by decide +kernel)) (fun _ h9 => h9) rfl dX0_place_1 ?_
  refine lv_iload_n hx hb dX0_place_4 rfl (lv_at hl 1 rfl) ?_
  refine lv_iconst (v := 0) hx hb dX0_place_5 (by decide) ?_
  refine kq_cS (As := [.int (nI f), .int 0]) (rest := [.ref oS]) ⟨hx, hb, hml, hown, hts⟩ (c_X3_figurePlace l dC dI cI f 0 ) (va_cwS 2 hts gX0_place_X3_figurePlace rfl rfl rfl (by decide +kernel) ⟨Nat.le_of_ble_eq_true rfl, Nat.le_of_ble_eq_true rfl⟩) (hP.sub [] rfl) hK rfl hl.1 rfl (Nat.le_of_ble_eq_true rfl) dX0_place_6 ⟨Nat.le_of_ble_eq_true rfl, Nat.le_of_ble_eq_true rfl⟩ ?_
  refine lv_iload_n hx hb dX0_place_9 rfl (lv_at hl 2 rfl) ?_
  refine kq_callMv (wr := [(oF, .inr (0, [.ref oS, .ref oN]))]) (va_runV (As := [.int (nI (366 + f * 4 + 0)), .int (nI r)]) (rest := []) ⟨hx, hb, hml, hown, hts⟩ (c_X3_put l dC dI cI s.heap.size oS rv rs cnt v (366 + f * 4 + 0) (nI r) (by first | assumption | omega)) (cwV 2 hts gX0_place_X3_put rfl rfl rfl (by decide +kernel) ⟨Nat.le_of_ble_eq_true rfl, Nat.le_of_ble_eq_true rfl⟩) (kq_preV (ci := 3) (q0 := 0) (hP.sub [1, 2] rfl) (hD.sub [1, 2] (by decide) rfl) hK rfl rfl) rfl rfl hl.1 rfl (lv_room (Nat.le_of_ble_eq_true rfl)) dX0_place_10 ⟨Nat.le_of_ble_eq_true rfl, Nat.le_of_ble_eq_true rfl⟩) hP hD hS hA [1, 2] [0] rfl rfl (by decide) (by decide) (fun u_2 H locs hw_3 hP hD hS => ?_)
  have hP : va_P (dC, dI) vwCl [(oF, .inr (0, [.ref oS, .ref oN])), (oS, .inr (3, [.ref rv, .ref rs, .int cnt])), (rv, .inl (cI, 385, .inl (upd v (366 + f * 4 + 0) (nI r))))] H := hP
  have hD : va_D A [(oF, .inr (0, [.ref oS, .ref oN])), (oS, .inr (3, [.ref rv, .ref rs, .int cnt])), (rv, .inl (cI, 385, .inl (upd v (366 + f * 4 + 0) (nI r))))] := hD
  refine lv_aload_n hx hb dX0_place_13 rfl (lv_at hl 0 rfl) ?_
  refine va_get (D := (dC, dI)) (ci := 0) (v := .ref oS) (C := RX0) (T := TX0) (N := 2) hx hb hts (by decide +kernel) hown hK.1 hP 0 rfl rfl 0 (by decide) (hts (.fieldLink RX0 9 "NoteWatermarks$Figures" "state" "LNoteWatermarks$State;") (by decide +kernel)) (fun _ h9 => h9) rfl dX0_place_14 ?_
  refine lv_iload_n hx hb dX0_place_17 rfl (lv_at hl 1 rfl) ?_
  refine lv_iconst (v := 1) hx hb dX0_place_18 (by decide) ?_
  refine kq_cS (As := [.int (nI f), .int 1]) (rest := [.ref oS]) ⟨hx, hb, hml, hown, hts⟩ (c_X3_figurePlace l dC dI cI f 1 ) (va_cwS 2 hts gX0_place_X3_figurePlace rfl rfl rfl (by decide +kernel) ⟨Nat.le_of_ble_eq_true rfl, Nat.le_of_ble_eq_true rfl⟩) (hP.sub [] rfl) hK rfl hl.1 rfl (Nat.le_of_ble_eq_true rfl) dX0_place_19 ⟨Nat.le_of_ble_eq_true rfl, Nat.le_of_ble_eq_true rfl⟩ ?_
  refine lv_iload_n hx hb dX0_place_22 rfl (lv_at hl 3 rfl) ?_
  refine kq_callMv (wr := [(oF, .inr (0, [.ref oS, .ref oN]))]) (va_runV (As := [.int (nI (366 + f * 4 + 1)), .int (nI d)]) (rest := []) ⟨hx, hb, hml, hown, hts⟩ (c_X3_put l dC dI cI H.size oS rv rs cnt (upd v (366 + f * 4 + 0) (nI r)) (366 + f * 4 + 1) (nI d) (by first | assumption | omega)) (cwV 2 hts gX0_place_X3_put rfl rfl rfl (by decide +kernel) ⟨Nat.le_of_ble_eq_true rfl, Nat.le_of_ble_eq_true rfl⟩) (kq_preV (ci := 3) (q0 := 0) (hP.sub [1, 2] rfl) (hD.sub [1, 2] (by decide) rfl) hK rfl rfl) rfl rfl hl.1 rfl (lv_room (Nat.le_of_ble_eq_true rfl)) dX0_place_23 ⟨Nat.le_of_ble_eq_true rfl, Nat.le_of_ble_eq_true rfl⟩) hP hD hS hA [1, 2] [0] rfl rfl (by decide) (by decide) (fun u_5 H locs hw_6 hP hD hS => ?_)
  have hP : va_P (dC, dI) vwCl [(oF, .inr (0, [.ref oS, .ref oN])), (oS, .inr (3, [.ref rv, .ref rs, .int cnt])), (rv, .inl (cI, 385, .inl (upd (upd v (366 + f * 4 + 0) (nI r)) (366 + f * 4 + 1) (nI d))))] H := hP
  have hD : va_D A [(oF, .inr (0, [.ref oS, .ref oN])), (oS, .inr (3, [.ref rv, .ref rs, .int cnt])), (rv, .inl (cI, 385, .inl (upd (upd v (366 + f * 4 + 0) (nI r)) (366 + f * 4 + 1) (nI d))))] := hD
  refine lv_aload_n hx hb dX0_place_26 rfl (lv_at hl 0 rfl) ?_
  refine va_get (D := (dC, dI)) (ci := 0) (v := .ref oS) (C := RX0) (T := TX0) (N := 2) hx hb hts (by decide +kernel) hown hK.1 hP 0 rfl rfl 0 (by decide) (hts (.fieldLink RX0 9 "NoteWatermarks$Figures" "state" "LNoteWatermarks$State;") (by decide +kernel)) (fun _ h9 => h9) rfl dX0_place_27 ?_
  refine lv_iload_n hx hb dX0_place_30 rfl (lv_at hl 1 rfl) ?_
  refine lv_iconst (v := 2) hx hb dX0_place_31 (by decide) ?_
  refine kq_cS (As := [.int (nI f), .int 2]) (rest := [.ref oS]) ⟨hx, hb, hml, hown, hts⟩ (c_X3_figurePlace l dC dI cI f 2 ) (va_cwS 2 hts gX0_place_X3_figurePlace rfl rfl rfl (by decide +kernel) ⟨Nat.le_of_ble_eq_true rfl, Nat.le_of_ble_eq_true rfl⟩) (hP.sub [] rfl) hK rfl hl.1 rfl (Nat.le_of_ble_eq_true rfl) dX0_place_32 ⟨Nat.le_of_ble_eq_true rfl, Nat.le_of_ble_eq_true rfl⟩ ?_
  refine lv_iload hx hb dX0_place_35 (lv_at hl 4 rfl) ?_
  refine kq_callMv (wr := [(oF, .inr (0, [.ref oS, .ref oN]))]) (va_runV (As := [.int (nI (366 + f * 4 + 2)), .int (nI h)]) (rest := []) ⟨hx, hb, hml, hown, hts⟩ (c_X3_put l dC dI cI H.size oS rv rs cnt (upd (upd v (366 + f * 4 + 0) (nI r)) (366 + f * 4 + 1) (nI d)) (366 + f * 4 + 2) (nI h) (by first | assumption | omega)) (cwV 2 hts gX0_place_X3_put rfl rfl rfl (by decide +kernel) ⟨Nat.le_of_ble_eq_true rfl, Nat.le_of_ble_eq_true rfl⟩) (kq_preV (ci := 3) (q0 := 0) (hP.sub [1, 2] rfl) (hD.sub [1, 2] (by decide) rfl) hK rfl rfl) rfl rfl hl.1 rfl (lv_room (Nat.le_of_ble_eq_true rfl)) dX0_place_37 ⟨Nat.le_of_ble_eq_true rfl, Nat.le_of_ble_eq_true rfl⟩) hP hD hS hA [1, 2] [0] rfl rfl (by decide) (by decide) (fun u_8 H locs hw_9 hP hD hS => ?_)
  have hP : va_P (dC, dI) vwCl [(oF, .inr (0, [.ref oS, .ref oN])), (oS, .inr (3, [.ref rv, .ref rs, .int cnt])), (rv, .inl (cI, 385, .inl (upd (upd (upd v (366 + f * 4 + 0) (nI r)) (366 + f * 4 + 1) (nI d)) (366 + f * 4 + 2) (nI h))))] H := hP
  have hD : va_D A [(oF, .inr (0, [.ref oS, .ref oN])), (oS, .inr (3, [.ref rv, .ref rs, .int cnt])), (rv, .inl (cI, 385, .inl (upd (upd (upd v (366 + f * 4 + 0) (nI r)) (366 + f * 4 + 1) (nI d)) (366 + f * 4 + 2) (nI h))))] := hD
  refine lv_aload_n hx hb dX0_place_40 rfl (lv_at hl 0 rfl) ?_
  refine va_get (D := (dC, dI)) (ci := 0) (v := .ref oS) (C := RX0) (T := TX0) (N := 2) hx hb hts (by decide +kernel) hown hK.1 hP 0 rfl rfl 0 (by decide) (hts (.fieldLink RX0 9 "NoteWatermarks$Figures" "state" "LNoteWatermarks$State;") (by decide +kernel)) (fun _ h9 => h9) rfl dX0_place_41 ?_
  refine lv_iload_n hx hb dX0_place_44 rfl (lv_at hl 1 rfl) ?_
  refine lv_iconst (v := 3) hx hb dX0_place_45 (by decide) ?_
  refine kq_cS (As := [.int (nI f), .int 3]) (rest := [.ref oS]) ⟨hx, hb, hml, hown, hts⟩ (c_X3_figurePlace l dC dI cI f 3 ) (va_cwS 2 hts gX0_place_X3_figurePlace rfl rfl rfl (by decide +kernel) ⟨Nat.le_of_ble_eq_true rfl, Nat.le_of_ble_eq_true rfl⟩) (hP.sub [] rfl) hK rfl hl.1 rfl (Nat.le_of_ble_eq_true rfl) dX0_place_46 ⟨Nat.le_of_ble_eq_true rfl, Nat.le_of_ble_eq_true rfl⟩ ?_
  refine lv_iload hx hb dX0_place_49 (lv_at hl 5 rfl) ?_
  refine kq_callMv (wr := [(oF, .inr (0, [.ref oS, .ref oN]))]) (va_runV (As := [.int (nI (366 + f * 4 + 3)), .int (nI w)]) (rest := []) ⟨hx, hb, hml, hown, hts⟩ (c_X3_put l dC dI cI H.size oS rv rs cnt (upd (upd (upd v (366 + f * 4 + 0) (nI r)) (366 + f * 4 + 1) (nI d)) (366 + f * 4 + 2) (nI h)) (366 + f * 4 + 3) (nI w) (by first | assumption | omega)) (cwV 2 hts gX0_place_X3_put rfl rfl rfl (by decide +kernel) ⟨Nat.le_of_ble_eq_true rfl, Nat.le_of_ble_eq_true rfl⟩) (kq_preV (ci := 3) (q0 := 0) (hP.sub [1, 2] rfl) (hD.sub [1, 2] (by decide) rfl) hK rfl rfl) rfl rfl hl.1 rfl (lv_room (Nat.le_of_ble_eq_true rfl)) dX0_place_51 ⟨Nat.le_of_ble_eq_true rfl, Nat.le_of_ble_eq_true rfl⟩) hP hD hS hA [1, 2] [0] rfl rfl (by decide) (by decide) (fun u_11 H locs hw_12 hP hD hS => ?_)
  have hP : va_P (dC, dI) vwCl [(oF, .inr (0, [.ref oS, .ref oN])), (oS, .inr (3, [.ref rv, .ref rs, .int cnt])), (rv, .inl (cI, 385, .inl (upd (upd (upd (upd v (366 + f * 4 + 0) (nI r)) (366 + f * 4 + 1) (nI d)) (366 + f * 4 + 2) (nI h)) (366 + f * 4 + 3) (nI w))))] H := hP
  have hD : va_D A [(oF, .inr (0, [.ref oS, .ref oN])), (oS, .inr (3, [.ref rv, .ref rs, .int cnt])), (rv, .inl (cI, 385, .inl (upd (upd (upd (upd v (366 + f * 4 + 0) (nI r)) (366 + f * 4 + 1) (nI d)) (366 + f * 4 + 2) (nI h)) (366 + f * 4 + 3) (nI w))))] := hD
  exact kq_retMv () hx hb hr hlocks hP hD hS dX0_place_54 (by trivial)
set_option maxHeartbeats 4000000 in
set_option maxRecDepth 100000 in
theorem c_X0_isThere (l : Launch) (dC : Nat → ClassId) (dI : Nat → Nat → Nat) (cI : ClassId) (oF : Nat) (oN : Nat) (oS : Nat) (rv : Nat) (rs : Nat) (cnt : Int32) (v : Nat → Int32) (f : Nat) (hI : n_I v) (hf : f < 4) : Met l yX0_isThere wsX0_isThere ({ frames := 2, cells := 0, slots := 0, locals := 42 }) (kq_R dC dI cI [.ref oF, .int (nI f)] [(oF, .inr (0, [.ref oS, .ref oN])), (oS, .inr (3, [.ref rv, .ref rs, .int cnt])), (rv, .inl (cI, 385, .inl v))]) (QcRead (if 0 < n_f v f 2 then (1:Int32) else 0)) 0 0 (fun _ => False) := by
  refine kq_start (cc := cX0_isThere) (maxL := 2) (ret := (some .boolean)) (plainFor_of_name (by decide)) rfl (Nat.le_of_ble_eq_true rfl) ?_
  intro p e s m below meth c hx hb hr hml hown hlocks hts hP hK ls hl
  have hown : s.vm.findClass RX0 = some m.cls := hown
  have hl : lv_has ls 2 [(0, .ref oF), (1, .int (nI f))] := hl
  have hfr := n_I_fr hI hf
  refine lv_aload_n hx hb dX0_isThere_0 rfl (lv_at hl 0 rfl) ?_
  refine lv_iload_n hx hb dX0_isThere_1 rfl (lv_at hl 1 rfl) ?_
  refine kq_cV (As := [.int (nI f)]) (rest := []) ⟨hx, hb, hml, hown, hts⟩ (c_X0_rows l dC dI cI oF oN oS rv rs cnt v f (by first | assumption | omega) (by first | assumption | omega)) (cwV 1 hts gX0_isThere_X0_rows rfl rfl rfl (by decide +kernel) ⟨Nat.le_of_ble_eq_true rfl, Nat.le_of_ble_eq_true rfl⟩) (hP.sub [0, 1, 2] rfl) hK (ci := 0) (q0 := 0) rfl rfl rfl rfl hl.1 rfl (Nat.le_of_ble_eq_true rfl) dX0_isThere_2 ⟨Nat.le_of_ble_eq_true rfl, Nat.le_of_ble_eq_true rfl⟩ ?_
  refine lv_if_le (tgt := 12) hx hb dX0_isThere_5 (by decide) (fun c_1 => ?_) (fun c_1 => ?_)
  · skip
    have c_1 := kq_leN (a := (n_f v f 2)) (b := 0) c_1 (by omega) (by omega)
    refine lv_iconst (v := 0) hx hb dX0_isThere_12 (by decide) ?_
    exact kq_retz hx hb hr hlocks dX0_isThere_13 (Or.inl rfl) (by first | rw [if_pos (by omega)] | rw [if_neg (by omega)])
  · skip
    have c_1 := kq_nleN (a := (n_f v f 2)) (b := 0) c_1 (by omega) (by omega)
    refine lv_iconst (v := 1) hx hb dX0_isThere_8 (by decide) ?_
    refine lv_goto (tgt := 13) hx hb dX0_isThere_9 (by decide) ?_
    exact kq_retz hx hb hr hlocks dX0_isThere_13 (Or.inr rfl) (by first | rw [if_pos (by omega)] | rw [if_neg (by omega)])
set_option maxHeartbeats 4000000 in
set_option maxRecDepth 100000 in
theorem c_X0_cells (l : Launch) (dC : Nat → ClassId) (dI : Nat → Nat → Nat) (cI : ClassId) (oF : Nat) (oN : Nat) (oS : Nat) (rv : Nat) (rs : Nat) (cnt : Int32) (v : Nat → Int32) (f : Nat) (hI : n_I v) (hf : f < 4) : Met l yX0_cells wsX0_cells ({ frames := 2, cells := 0, slots := 0, locals := 42 }) (kq_R dC dI cI [.ref oF, .int (nI f)] [(oF, .inr (0, [.ref oS, .ref oN])), (oS, .inr (3, [.ref rv, .ref rs, .int cnt])), (rv, .inl (cI, 385, .inl v))]) (QcRead (nI (n_f v f 2 * n_f v f 3))) 0 0 (fun _ => False) := by
  refine kq_start (cc := cX0_cells) (maxL := 2) (ret := (some .int)) (plainFor_of_name (by decide)) rfl (Nat.le_of_ble_eq_true rfl) ?_
  intro p e s m below meth c hx hb hr hml hown hlocks hts hP hK ls hl
  have hown : s.vm.findClass RX0 = some m.cls := hown
  have hl : lv_has ls 2 [(0, .ref oF), (1, .int (nI f))] := hl
  refine lv_aload_n hx hb dX0_cells_0 rfl (lv_at hl 0 rfl) ?_
  refine lv_iload_n hx hb dX0_cells_1 rfl (lv_at hl 1 rfl) ?_
  refine kq_cV (As := [.int (nI f)]) (rest := []) ⟨hx, hb, hml, hown, hts⟩ (c_X0_rows l dC dI cI oF oN oS rv rs cnt v f (by first | assumption | omega) (by first | assumption | omega)) (cwV 1 hts gX0_cells_X0_rows rfl rfl rfl (by decide +kernel) ⟨Nat.le_of_ble_eq_true rfl, Nat.le_of_ble_eq_true rfl⟩) (hP.sub [0, 1, 2] rfl) hK (ci := 0) (q0 := 0) rfl rfl rfl rfl hl.1 rfl (Nat.le_of_ble_eq_true rfl) dX0_cells_2 ⟨Nat.le_of_ble_eq_true rfl, Nat.le_of_ble_eq_true rfl⟩ ?_
  refine lv_aload_n hx hb dX0_cells_5 rfl (lv_at hl 0 rfl) ?_
  refine lv_iload_n hx hb dX0_cells_6 rfl (lv_at hl 1 rfl) ?_
  refine kq_cV (As := [.int (nI f)]) (rest := [.int (nI (n_f v f 2))]) ⟨hx, hb, hml, hown, hts⟩ (c_X0_columns l dC dI cI oF oN oS rv rs cnt v f (by first | assumption | omega) (by first | assumption | omega)) (cwV 1 hts gX0_cells_X0_columns rfl rfl rfl (by decide +kernel) ⟨Nat.le_of_ble_eq_true rfl, Nat.le_of_ble_eq_true rfl⟩) (hP.sub [0, 1, 2] rfl) hK (ci := 0) (q0 := 0) rfl rfl rfl rfl hl.1 rfl (Nat.le_of_ble_eq_true rfl) dX0_cells_7 ⟨Nat.le_of_ble_eq_true rfl, Nat.le_of_ble_eq_true rfl⟩ ?_
  refine lv_imul hx hb dX0_cells_10 ?_
  refine kq_top (z := nI ((n_f v f 2) * (n_f v f 3))) (pk_mul (n_f v f 2) (n_f v f 3)) ?_
  exact kq_ret hx hb hr hlocks dX0_cells_11 (by rfl)
set_option maxHeartbeats 4000000 in
set_option maxRecDepth 100000 in
theorem c_X0_frameCells (l : Launch) (dC : Nat → ClassId) (dI : Nat → Nat → Nat) (cI : ClassId) (oF : Nat) (oN : Nat) (oS : Nat) (rv : Nat) (rs : Nat) (cnt : Int32) (v : Nat → Int32) (f : Nat) (hI : n_I v) (hf : f < 4) (ht : 0 < n_f v f 2) : Met l yX0_frameCells wsX0_frameCells ({ frames := 2, cells := 0, slots := 0, locals := 46 }) (kq_R dC dI cI [.ref oF, .int (nI f)] [(oF, .inr (0, [.ref oS, .ref oN])), (oS, .inr (3, [.ref rv, .ref rs, .int cnt])), (rv, .inl (cI, 385, .inl v))]) (QcRead (nI (n_fr (n_f v f 0) (n_f v f 1) (n_f v f 2) (n_f v f 3)))) 0 0 (fun _ => False) := by
  refine kq_start (cc := cX0_frameCells) (maxL := 2) (ret := (some .int)) (plainFor_of_name (by decide)) rfl (Nat.le_of_ble_eq_true rfl) ?_
  intro p e s m below meth c hx hb hr hml hown hlocks hts hP hK ls hl
  have hown : s.vm.findClass RX0 = some m.cls := hown
  have hl : lv_has ls 2 [(0, .ref oF), (1, .int (nI f))] := hl
  have hfr := n_I_fr hI hf
  have hw0 : 0 < n_f v f 3 := hfr.2.1 ht
  refine lv_aload_n hx hb dX0_frameCells_0 rfl (lv_at hl 0 rfl) ?_
  refine lv_iload_n hx hb dX0_frameCells_1 rfl (lv_at hl 1 rfl) ?_
  refine kq_cV (As := [.int (nI f)]) (rest := []) ⟨hx, hb, hml, hown, hts⟩ (c_X0_firstRow l dC dI cI oF oN oS rv rs cnt v f (by first | assumption | omega) (by first | assumption | omega)) (cwV 1 hts gX0_frameCells_X0_firstRow rfl rfl rfl (by decide +kernel) ⟨Nat.le_of_ble_eq_true rfl, Nat.le_of_ble_eq_true rfl⟩) (hP.sub [0, 1, 2] rfl) hK (ci := 0) (q0 := 0) rfl rfl rfl rfl hl.1 rfl (Nat.le_of_ble_eq_true rfl) dX0_frameCells_2 ⟨Nat.le_of_ble_eq_true rfl, Nat.le_of_ble_eq_true rfl⟩ ?_
  refine lv_aload_n hx hb dX0_frameCells_5 rfl (lv_at hl 0 rfl) ?_
  refine lv_iload_n hx hb dX0_frameCells_6 rfl (lv_at hl 1 rfl) ?_
  refine kq_cV (As := [.int (nI f)]) (rest := [.int (nI (n_f v f 0))]) ⟨hx, hb, hml, hown, hts⟩ (c_X0_firstColumn l dC dI cI oF oN oS rv rs cnt v f (by first | assumption | omega) (by first | assumption | omega)) (cwV 1 hts gX0_frameCells_X0_firstColumn rfl rfl rfl (by decide +kernel) ⟨Nat.le_of_ble_eq_true rfl, Nat.le_of_ble_eq_true rfl⟩) (hP.sub [0, 1, 2] rfl) hK (ci := 0) (q0 := 0) rfl rfl rfl rfl hl.1 rfl (Nat.le_of_ble_eq_true rfl) dX0_frameCells_7 ⟨Nat.le_of_ble_eq_true rfl, Nat.le_of_ble_eq_true rfl⟩ ?_
  refine lv_aload_n hx hb dX0_frameCells_10 rfl (lv_at hl 0 rfl) ?_
  refine lv_iload_n hx hb dX0_frameCells_11 rfl (lv_at hl 1 rfl) ?_
  refine kq_cV (As := [.int (nI f)]) (rest := [.int (nI (n_f v f 1)), .int (nI (n_f v f 0))]) ⟨hx, hb, hml, hown, hts⟩ (c_X0_rows l dC dI cI oF oN oS rv rs cnt v f (by first | assumption | omega) (by first | assumption | omega)) (cwV 1 hts gX0_frameCells_X0_rows rfl rfl rfl (by decide +kernel) ⟨Nat.le_of_ble_eq_true rfl, Nat.le_of_ble_eq_true rfl⟩) (hP.sub [0, 1, 2] rfl) hK (ci := 0) (q0 := 0) rfl rfl rfl rfl hl.1 rfl (Nat.le_of_ble_eq_true rfl) dX0_frameCells_12 ⟨Nat.le_of_ble_eq_true rfl, Nat.le_of_ble_eq_true rfl⟩ ?_
  refine lv_aload_n hx hb dX0_frameCells_15 rfl (lv_at hl 0 rfl) ?_
  refine lv_iload_n hx hb dX0_frameCells_16 rfl (lv_at hl 1 rfl) ?_
  refine kq_cV (As := [.int (nI f)]) (rest := [.int (nI (n_f v f 2)), .int (nI (n_f v f 1)), .int (nI (n_f v f 0))]) ⟨hx, hb, hml, hown, hts⟩ (c_X0_columns l dC dI cI oF oN oS rv rs cnt v f (by first | assumption | omega) (by first | assumption | omega)) (cwV 1 hts gX0_frameCells_X0_columns rfl rfl rfl (by decide +kernel) ⟨Nat.le_of_ble_eq_true rfl, Nat.le_of_ble_eq_true rfl⟩) (hP.sub [0, 1, 2] rfl) hK (ci := 0) (q0 := 0) rfl rfl rfl rfl hl.1 rfl (Nat.le_of_ble_eq_true rfl) dX0_frameCells_17 ⟨Nat.le_of_ble_eq_true rfl, Nat.le_of_ble_eq_true rfl⟩ ?_
  refine kq_cS (As := [.int (nI (n_f v f 0)), .int (nI (n_f v f 1)), .int (nI (n_f v f 2)), .int (nI (n_f v f 3))]) (rest := []) ⟨hx, hb, hml, hown, hts⟩ (c_X1_cellsOfFrame l dC dI cI (n_f v f 0) (n_f v f 1) (n_f v f 2) (n_f v f 3) (by first | assumption | omega) (by first | assumption | omega) (by first | assumption | omega) (by first | assumption | omega)) (va_cwS 4 hts gX0_frameCells_X1_cellsOfFrame rfl rfl rfl (by decide +kernel) ⟨Nat.le_of_ble_eq_true rfl, Nat.le_of_ble_eq_true rfl⟩) (hP.sub [] rfl) hK rfl hl.1 rfl (Nat.le_of_ble_eq_true rfl) dX0_frameCells_20 ⟨Nat.le_of_ble_eq_true rfl, Nat.le_of_ble_eq_true rfl⟩ ?_
  exact kq_ret hx hb hr hlocks dX0_frameCells_23 (by rfl)
set_option maxHeartbeats 4000000 in
set_option maxRecDepth 100000 in
theorem c_X0_isHidden (l : Launch) (dC : Nat → ClassId) (dI : Nat → Nat → Nat) (cI : ClassId) (oF : Nat) (oN : Nat) (oS : Nat) (rv : Nat) (rs : Nat) (cnt : Int32) (v : Nat → Int32) (f : Nat) (hI : n_I v) (hf : f < 4) (ht : 0 < n_f v f 2) : Met l yX0_isHidden wsX0_isHidden ({ frames := 2, cells := 0, slots := 0, locals := 42 }) (kq_R dC dI cI [.ref oF, .int (nI f)] [(oF, .inr (0, [.ref oS, .ref oN])), (oS, .inr (3, [.ref rv, .ref rs, .int cnt])), (rv, .inl (cI, 385, .inl v))]) (QcRead (if n_hid v f then (1:Int32) else 0)) 0 0 (fun _ => False) := by
  refine kq_start (cc := cX0_isHidden) (maxL := 9) (ret := (some .boolean)) (plainFor_of_name (by decide)) rfl (Nat.le_of_ble_eq_true rfl) ?_
  intro p e s m below meth c hx hb hr hml hown hlocks hts hP hK ls hl
  have hown : s.vm.findClass RX0 = some m.cls := hown
  have hl : lv_has ls 9 [(0, .ref oF), (1, .int (nI f))] := hl
  have hfr := n_I_fr hI hf
  have hw0 : 0 < n_f v f 3 := hfr.2.1 ht
  refine lv_aload_n hx hb dX0_isHidden_0 rfl (lv_at hl 0 rfl) ?_
  refine lv_iload_n hx hb dX0_isHidden_1 rfl (lv_at hl 1 rfl) ?_
  refine kq_cV (As := [.int (nI f)]) (rest := []) ⟨hx, hb, hml, hown, hts⟩ (c_X0_firstRow l dC dI cI oF oN oS rv rs cnt v f (by first | assumption | omega) (by first | assumption | omega)) (cwV 1 hts gX0_isHidden_X0_firstRow rfl rfl rfl (by decide +kernel) ⟨Nat.le_of_ble_eq_true rfl, Nat.le_of_ble_eq_true rfl⟩) (hP.sub [0, 1, 2] rfl) hK (ci := 0) (q0 := 0) rfl rfl rfl rfl hl.1 rfl (Nat.le_of_ble_eq_true rfl) dX0_isHidden_2 ⟨Nat.le_of_ble_eq_true rfl, Nat.le_of_ble_eq_true rfl⟩ ?_
  refine lv_istore_n (lv' := [(2, .int (nI (n_f v f 0))), (0, .ref oF), (1, .int (nI f))]) hx hb dX0_isHidden_5 rfl hl (by decide) rfl (fun ls hl => ?_)
  refine lv_aload_n hx hb dX0_isHidden_6 rfl (lv_at hl 1 rfl) ?_
  refine lv_iload_n hx hb dX0_isHidden_7 rfl (lv_at hl 2 rfl) ?_
  refine kq_cV (As := [.int (nI f)]) (rest := []) ⟨hx, hb, hml, hown, hts⟩ (c_X0_firstColumn l dC dI cI oF oN oS rv rs cnt v f (by first | assumption | omega) (by first | assumption | omega)) (cwV 1 hts gX0_isHidden_X0_firstColumn rfl rfl rfl (by decide +kernel) ⟨Nat.le_of_ble_eq_true rfl, Nat.le_of_ble_eq_true rfl⟩) (hP.sub [0, 1, 2] rfl) hK (ci := 0) (q0 := 0) rfl rfl rfl rfl hl.1 rfl (Nat.le_of_ble_eq_true rfl) dX0_isHidden_8 ⟨Nat.le_of_ble_eq_true rfl, Nat.le_of_ble_eq_true rfl⟩ ?_
  refine lv_istore_n (lv' := [(3, .int (nI (n_f v f 1))), (2, .int (nI (n_f v f 0))), (0, .ref oF), (1, .int (nI f))]) hx hb dX0_isHidden_11 rfl hl (by decide) rfl (fun ls hl => ?_)
  refine lv_aload_n hx hb dX0_isHidden_12 rfl (lv_at hl 2 rfl) ?_
  refine va_get (D := (dC, dI)) (ci := 0) (v := .ref oS) (C := RX0) (T := TX0) (N := 2) hx hb hts (by decide +kernel) hown hK.1 hP 0 rfl rfl 0 (by decide) (hts (.fieldLink RX0 9 "NoteWatermarks$Figures" "state" "LNoteWatermarks$State;") (by decide +kernel)) (fun _ h9 => h9) rfl dX0_isHidden_13 ?_
  refine lv_iload_n hx hb dX0_isHidden_16 rfl (lv_at hl 1 rfl) ?_
  refine lv_iload_n hx hb dX0_isHidden_17 rfl (lv_at hl 0 rfl) ?_
  refine kq_cS (As := [.int (nI (n_f v f 0)), .int (nI (n_f v f 1))]) (rest := [.ref oS]) ⟨hx, hb, hml, hown, hts⟩ (c_X3_inkPlace l dC dI cI (n_f v f 0) (n_f v f 1) ) (va_cwS 2 hts gX0_isHidden_X3_inkPlace rfl rfl rfl (by decide +kernel) ⟨Nat.le_of_ble_eq_true rfl, Nat.le_of_ble_eq_true rfl⟩) (hP.sub [] rfl) hK rfl hl.1 rfl (Nat.le_of_ble_eq_true rfl) dX0_isHidden_18 ⟨Nat.le_of_ble_eq_true rfl, Nat.le_of_ble_eq_true rfl⟩ ?_
  refine kq_cV (As := [.int (nI (294 + (n_f v f 0) * 12 + (n_f v f 1)))]) (rest := []) ⟨hx, hb, hml, hown, hts⟩ (c_X3_at l dC dI cI oS rv rs cnt v (294 + (n_f v f 0) * 12 + (n_f v f 1)) (by first | assumption | omega)) (cwV 1 hts gX0_isHidden_X3_at rfl rfl rfl (by decide +kernel) ⟨Nat.le_of_ble_eq_true rfl, Nat.le_of_ble_eq_true rfl⟩) (hP.sub [1, 2] rfl) hK (ci := 3) (q0 := 0) rfl rfl rfl rfl hl.1 rfl (Nat.le_of_ble_eq_true rfl) dX0_isHidden_21 ⟨Nat.le_of_ble_eq_true rfl, Nat.le_of_ble_eq_true rfl⟩ ?_
  refine kq_top (z := v (294 + (n_f v f 0 * 12 + n_f v f 1))) (congrArg v (by omega)) ?_
  refine lv_istore (lv' := [(4, .int (v (294 + (n_f v f 0 * 12 + n_f v f 1)))), (3, .int (nI (n_f v f 1))), (2, .int (nI (n_f v f 0))), (0, .ref oF), (1, .int (nI f))]) hx hb dX0_isHidden_24 hl (by decide) rfl (fun ls hl => ?_)
  refine lv_iload_n hx hb dX0_isHidden_26 rfl (lv_at hl 2 rfl) ?_
  refine lv_aload_n hx hb dX0_isHidden_27 rfl (lv_at hl 3 rfl) ?_
  refine lv_iload_n hx hb dX0_isHidden_28 rfl (lv_at hl 4 rfl) ?_
  refine kq_cV (As := [.int (nI f)]) (rest := [.int (nI (n_f v f 0))]) ⟨hx, hb, hml, hown, hts⟩ (c_X0_rows l dC dI cI oF oN oS rv rs cnt v f (by first | assumption | omega) (by first | assumption | omega)) (cwV 1 hts gX0_isHidden_X0_rows rfl rfl rfl (by decide +kernel) ⟨Nat.le_of_ble_eq_true rfl, Nat.le_of_ble_eq_true rfl⟩) (hP.sub [0, 1, 2] rfl) hK (ci := 0) (q0 := 0) rfl rfl rfl rfl hl.1 rfl (Nat.le_of_ble_eq_true rfl) dX0_isHidden_29 ⟨Nat.le_of_ble_eq_true rfl, Nat.le_of_ble_eq_true rfl⟩ ?_
  refine lv_iadd hx hb dX0_isHidden_32 ?_
  refine kq_top (z := nI ((n_f v f 0) + (n_f v f 2))) (nI_add (n_f v f 0) (n_f v f 2)) ?_
  refine lv_iconst (v := 1) hx hb dX0_isHidden_33 (by decide) ?_
  refine lv_iadd hx hb dX0_isHidden_34 ?_
  refine kq_top (z := nI (((n_f v f 0) + (n_f v f 2)) + 1)) (nI_add ((n_f v f 0) + (n_f v f 2)) 1) ?_
  refine lv_bipush (v := 6) hx hb dX0_isHidden_35 (by decide) ?_
  refine va_mmin hx hb (hml.trans hl.1.symm) hown (hts (.methodLink RX0 54 Lib.Math.min.name) (by decide +kernel)) (hts (.static Lib.Math.min.name) (by decide +kernel)) (hts (.initialized "java/lang/Math") (by decide +kernel)) (hts (.code Lib.Math.min.name Lib.Math.min.code 2 (some .int)) (by decide +kernel)) (Nat.le_of_ble_eq_true rfl) (Nat.le_of_ble_eq_true rfl) (Nat.le_of_ble_eq_true rfl) (Nat.le_of_ble_eq_true rfl) dX0_isHidden_37 ?_
  refine kq_top (z := nI (min (((n_f v f 0) + (n_f v f 2)) + 1) 6)) (kq_min (a := (((n_f v f 0) + (n_f v f 2)) + 1)) (b := 6) (by omega) (by omega)) ?_
  refine lv_istore (lv' := [(5, .int (nI (min (((n_f v f 0) + (n_f v f 2)) + 1) 6))), (4, .int (v (294 + (n_f v f 0 * 12 + n_f v f 1)))), (3, .int (nI (n_f v f 1))), (2, .int (nI (n_f v f 0))), (0, .ref oF), (1, .int (nI f))]) hx hb dX0_isHidden_40 hl (by decide) rfl (fun ls hl => ?_)
  refine lv_iload_n hx hb dX0_isHidden_42 rfl (lv_at hl 2 rfl) ?_
  refine lv_aload_n hx hb dX0_isHidden_43 rfl (lv_at hl 4 rfl) ?_
  refine lv_iload_n hx hb dX0_isHidden_44 rfl (lv_at hl 5 rfl) ?_
  refine kq_cV (As := [.int (nI f)]) (rest := [.int (nI (n_f v f 1))]) ⟨hx, hb, hml, hown, hts⟩ (c_X0_columns l dC dI cI oF oN oS rv rs cnt v f (by first | assumption | omega) (by first | assumption | omega)) (cwV 1 hts gX0_isHidden_X0_columns rfl rfl rfl (by decide +kernel) ⟨Nat.le_of_ble_eq_true rfl, Nat.le_of_ble_eq_true rfl⟩) (hP.sub [0, 1, 2] rfl) hK (ci := 0) (q0 := 0) rfl rfl rfl rfl hl.1 rfl (Nat.le_of_ble_eq_true rfl) dX0_isHidden_45 ⟨Nat.le_of_ble_eq_true rfl, Nat.le_of_ble_eq_true rfl⟩ ?_
  refine lv_iadd hx hb dX0_isHidden_48 ?_
  refine kq_top (z := nI ((n_f v f 1) + (n_f v f 3))) (nI_add (n_f v f 1) (n_f v f 3)) ?_
  refine lv_iconst (v := 1) hx hb dX0_isHidden_49 (by decide) ?_
  refine lv_iadd hx hb dX0_isHidden_50 ?_
  refine kq_top (z := nI (((n_f v f 1) + (n_f v f 3)) + 1)) (nI_add ((n_f v f 1) + (n_f v f 3)) 1) ?_
  refine lv_bipush (v := 12) hx hb dX0_isHidden_51 (by decide) ?_
  refine va_mmin hx hb (hml.trans hl.1.symm) hown (hts (.methodLink RX0 54 Lib.Math.min.name) (by decide +kernel)) (hts (.static Lib.Math.min.name) (by decide +kernel)) (hts (.initialized "java/lang/Math") (by decide +kernel)) (hts (.code Lib.Math.min.name Lib.Math.min.code 2 (some .int)) (by decide +kernel)) (Nat.le_of_ble_eq_true rfl) (Nat.le_of_ble_eq_true rfl) (Nat.le_of_ble_eq_true rfl) (Nat.le_of_ble_eq_true rfl) dX0_isHidden_53 ?_
  refine kq_top (z := nI (min (((n_f v f 1) + (n_f v f 3)) + 1) 12)) (kq_min (a := (((n_f v f 1) + (n_f v f 3)) + 1)) (b := 12) (by omega) (by omega)) ?_
  refine lv_istore (lv' := [(6, .int (nI (min (((n_f v f 1) + (n_f v f 3)) + 1) 12))), (5, .int (nI (min (((n_f v f 0) + (n_f v f 2)) + 1) 6))), (4, .int (v (294 + (n_f v f 0 * 12 + n_f v f 1)))), (3, .int (nI (n_f v f 1))), (2, .int (nI (n_f v f 0))), (0, .ref oF), (1, .int (nI f))]) hx hb dX0_isHidden_56 hl (by decide) rfl (fun ls hl => ?_)
  refine lv_iload_n hx hb dX0_isHidden_58 rfl (lv_at hl 4 rfl) ?_
  refine lv_iconst (v := 1) hx hb dX0_isHidden_59 (by decide) ?_
  refine lv_isub hx hb dX0_isHidden_60 ?_
  refine lv_iconst (v := 0) hx hb dX0_isHidden_61 (by decide) ?_
  refine va_mmax hx hb (hml.trans hl.1.symm) hown (hts (.methodLink RX0 59 Lib.Math.max.name) (by decide +kernel)) (hts (.static Lib.Math.max.name) (by decide +kernel)) (hts (.initialized "java/lang/Math") (by decide +kernel)) (hts (.code Lib.Math.max.name Lib.Math.max.code 2 (some .int)) (by decide +kernel)) (Nat.le_of_ble_eq_true rfl) (Nat.le_of_ble_eq_true rfl) (Nat.le_of_ble_eq_true rfl) (Nat.le_of_ble_eq_true rfl) dX0_isHidden_62 ?_
  refine kq_top (z := nI ((n_f v f 0) - 1)) (kq_pm (a := (n_f v f 0)) (by omega)) ?_
  refine lv_istore (lv' := [(7, .int (nI ((n_f v f 0) - 1))), (6, .int (nI (min (((n_f v f 1) + (n_f v f 3)) + 1) 12))), (5, .int (nI (min (((n_f v f 0) + (n_f v f 2)) + 1) 6))), (4, .int (v (294 + (n_f v f 0 * 12 + n_f v f 1)))), (3, .int (nI (n_f v f 1))), (2, .int (nI (n_f v f 0))), (0, .ref oF), (1, .int (nI f))]) hx hb dX0_isHidden_65 hl (by decide) rfl (fun ls hl => ?_)
  refine kq_loop1 (A1 := Nat) (fun (y : Nat) => 6 - y) (fun (y : Nat) => (n_f v f 0 - 1 ≤ y ∧ y ≤ min (n_f v f 0 + n_f v f 2 + 1) 6) ∧ (∀ k, k < 72 → k / 12 < y → n_hidP v f k)) (fun (y : Nat) => [(0, .ref oF), (1, .int (nI f)), (2, .int (nI (n_f v f 0))), (3, .int (nI (n_f v f 1))), (4, .int (v (294 + (n_f v f 0 * 12 + n_f v f 1)))), (5, .int (nI (min (n_f v f 0 + n_f v f 2 + 1) 6))), (6, .int (nI (min (n_f v f 1 + n_f v f 3 + 1) 12))), (7, .int (nI y))]) (nL := 9) ?_ ((n_f v f 0) - 1) ⟨(by omega), (by intro k hk hy q; exact absurd q.1.1 (by omega))⟩ _ (lv_sub hl [6, 7, 5, 4, 3, 2, 1, 0] rfl)
  intro y hi_2 ih_1 ls hl
  obtain ⟨iy, ig⟩ := hi_2
  have hl : lv_has ls 9 [(0, .ref oF), (1, .int (nI f)), (2, .int (nI (n_f v f 0))), (3, .int (nI (n_f v f 1))), (4, .int (v (294 + (n_f v f 0 * 12 + n_f v f 1)))), (5, .int (nI (min (n_f v f 0 + n_f v f 2 + 1) 6))), (6, .int (nI (min (n_f v f 1 + n_f v f 3 + 1) 12))), (7, .int (nI y))] := hl
  refine lv_iload hx hb dX0_isHidden_67 (lv_at hl 7 rfl) ?_
  refine lv_iload hx hb dX0_isHidden_69 (lv_at hl 5 rfl) ?_
  refine lv_icmp_ge (tgt := 123) hx hb dX0_isHidden_71 (by decide) (fun c_3 => ?_) (fun c_3 => ?_)
  · skip
    have c_3 := kq_leN (a := (min (n_f v f 0 + n_f v f 2 + 1) 6)) (b := y) c_3 (by omega) (by omega)
    refine lv_iconst (v := 1) hx hb dX0_isHidden_123 (by decide) ?_
    exact kq_retz hx hb hr hlocks dX0_isHidden_124 (Or.inr rfl) (by rw [if_pos (n_hid_iff.mpr (fun k hk => by rcases Nat.lt_or_ge (k / 12) y with q | q; exact ig k hk q; intro q2; exact absurd q2.1.2 (by omega)))])
  · skip
    have c_3 := kq_nleN (a := (min (n_f v f 0 + n_f v f 2 + 1) 6)) (b := y) c_3 (by omega) (by omega)
    refine lv_iload_n hx hb dX0_isHidden_74 rfl (lv_at hl 3 rfl) ?_
    refine lv_iconst (v := 1) hx hb dX0_isHidden_75 (by decide) ?_
    refine lv_isub hx hb dX0_isHidden_76 ?_
    refine lv_iconst (v := 0) hx hb dX0_isHidden_77 (by decide) ?_
    refine va_mmax hx hb (hml.trans hl.1.symm) hown (hts (.methodLink RX0 59 Lib.Math.max.name) (by decide +kernel)) (hts (.static Lib.Math.max.name) (by decide +kernel)) (hts (.initialized "java/lang/Math") (by decide +kernel)) (hts (.code Lib.Math.max.name Lib.Math.max.code 2 (some .int)) (by decide +kernel)) (Nat.le_of_ble_eq_true rfl) (Nat.le_of_ble_eq_true rfl) (Nat.le_of_ble_eq_true rfl) (Nat.le_of_ble_eq_true rfl) dX0_isHidden_78 ?_
    refine kq_top (z := nI ((n_f v f 1) - 1)) (kq_pm (a := (n_f v f 1)) (by omega)) ?_
    refine lv_istore (lv' := [(8, .int (nI ((n_f v f 1) - 1))), (0, .ref oF), (1, .int (nI f)), (2, .int (nI (n_f v f 0))), (3, .int (nI (n_f v f 1))), (4, .int (v (294 + (n_f v f 0 * 12 + n_f v f 1)))), (5, .int (nI (min (n_f v f 0 + n_f v f 2 + 1) 6))), (6, .int (nI (min (n_f v f 1 + n_f v f 3 + 1) 12))), (7, .int (nI y))]) hx hb dX0_isHidden_81 hl (by decide) rfl (fun ls hl => ?_)
    refine kq_loop1 (A1 := Nat) (fun (z : Nat) => 12 - z) (fun (z : Nat) => (n_f v f 1 - 1 ≤ z ∧ z ≤ min (n_f v f 1 + n_f v f 3 + 1) 12) ∧ (∀ k, k < 72 → k / 12 = y → k % 12 < z → n_hidP v f k)) (fun (z : Nat) => [(0, .ref oF), (1, .int (nI f)), (2, .int (nI (n_f v f 0))), (3, .int (nI (n_f v f 1))), (4, .int (v (294 + (n_f v f 0 * 12 + n_f v f 1)))), (5, .int (nI (min (n_f v f 0 + n_f v f 2 + 1) 6))), (6, .int (nI (min (n_f v f 1 + n_f v f 3 + 1) 12))), (7, .int (nI y)), (8, .int (nI z))]) (nL := 9) ?_ ((n_f v f 1) - 1) ⟨(by omega), (by intro k hk hy hz q; exact absurd q.2.1 (by omega))⟩ _ (lv_sub hl [1, 2, 3, 4, 5, 6, 7, 8, 0] rfl)
    intro z hi_5 ih_4 ls hl
    obtain ⟨iz, iz2⟩ := hi_5
    have hl : lv_has ls 9 [(0, .ref oF), (1, .int (nI f)), (2, .int (nI (n_f v f 0))), (3, .int (nI (n_f v f 1))), (4, .int (v (294 + (n_f v f 0 * 12 + n_f v f 1)))), (5, .int (nI (min (n_f v f 0 + n_f v f 2 + 1) 6))), (6, .int (nI (min (n_f v f 1 + n_f v f 3 + 1) 12))), (7, .int (nI y)), (8, .int (nI z))] := hl
    refine lv_iload hx hb dX0_isHidden_83 (lv_at hl 8 rfl) ?_
    refine lv_iload hx hb dX0_isHidden_85 (lv_at hl 6 rfl) ?_
    refine lv_icmp_ge (tgt := 117) hx hb dX0_isHidden_87 (by decide) (fun c_6 => ?_) (fun c_6 => ?_)
    · skip
      have c_6 := kq_leN (a := (min (n_f v f 1 + n_f v f 3 + 1) 12)) (b := z) c_6 (by omega) (by omega)
      have ih2 : ∀ k, k < 72 → k / 12 = y → k % 12 < 12 → n_hidP v f k := by intro k hk hy hz; rcases Nat.lt_or_ge (k % 12) z with q | q; exact iz2 k hk hy q; intro q2; exact absurd q2.2.2 (by omega)
      refine lv_iinc (v := nI (y + 1)) (lv' := [(7, .int (nI (y + 1))), (0, .ref oF), (1, .int (nI f)), (2, .int (nI (n_f v f 0))), (3, .int (nI (n_f v f 1))), (4, .int (v (294 + (n_f v f 0 * 12 + n_f v f 1)))), (5, .int (nI (min (n_f v f 0 + n_f v f 2 + 1) 6))), (6, .int (nI (min (n_f v f 1 + n_f v f 3 + 1) 12))), (8, .int (nI z))]) hx hb dX0_isHidden_117 hl (k := 7) rfl (nI_1 y) (by decide) rfl (fun ls hl => ?_)
      refine lv_goto (tgt := 67) hx hb dX0_isHidden_120 (by decide) ?_
      exact ih_1 (y + 1) ⟨(by omega), (by intro k hk hy; rcases Nat.lt_or_ge (k / 12) y with q | q; exact ig k hk q; exact ih2 k hk (by omega) (by omega))⟩ (by show 6 - (y + 1) < 6 - y; omega) _ (lv_sub hl [1, 2, 3, 4, 5, 6, 7, 0] rfl)
    · skip
      have c_6 := kq_nleN (a := (min (n_f v f 1 + n_f v f 3 + 1) 12)) (b := z) c_6 (by omega) (by omega)
      refine lv_aload_n hx hb dX0_isHidden_90 rfl (lv_at hl 0 rfl) ?_
      refine va_get (D := (dC, dI)) (ci := 0) (v := .ref oS) (C := RX0) (T := TX0) (N := 2) hx hb hts (by decide +kernel) hown hK.1 hP 0 rfl rfl 0 (by decide) (hts (.fieldLink RX0 9 "NoteWatermarks$Figures" "state" "LNoteWatermarks$State;") (by decide +kernel)) (fun _ h9 => h9) rfl dX0_isHidden_91 ?_
      refine lv_iload hx hb dX0_isHidden_94 (lv_at hl 7 rfl) ?_
      refine lv_iload hx hb dX0_isHidden_96 (lv_at hl 8 rfl) ?_
      refine kq_cS (As := [.int (nI y), .int (nI z)]) (rest := [.ref oS]) ⟨hx, hb, hml, hown, hts⟩ (c_X3_inkPlace l dC dI cI y z ) (va_cwS 2 hts gX0_isHidden_X3_inkPlace rfl rfl rfl (by decide +kernel) ⟨Nat.le_of_ble_eq_true rfl, Nat.le_of_ble_eq_true rfl⟩) (hP.sub [] rfl) hK rfl hl.1 rfl (Nat.le_of_ble_eq_true rfl) dX0_isHidden_98 ⟨Nat.le_of_ble_eq_true rfl, Nat.le_of_ble_eq_true rfl⟩ ?_
      refine kq_cV (As := [.int (nI (294 + y * 12 + z))]) (rest := []) ⟨hx, hb, hml, hown, hts⟩ (c_X3_at l dC dI cI oS rv rs cnt v (294 + y * 12 + z) (by first | assumption | omega)) (cwV 1 hts gX0_isHidden_X3_at rfl rfl rfl (by decide +kernel) ⟨Nat.le_of_ble_eq_true rfl, Nat.le_of_ble_eq_true rfl⟩) (hP.sub [1, 2] rfl) hK (ci := 3) (q0 := 0) rfl rfl rfl rfl hl.1 rfl (Nat.le_of_ble_eq_true rfl) dX0_isHidden_101 ⟨Nat.le_of_ble_eq_true rfl, Nat.le_of_ble_eq_true rfl⟩ ?_
      refine kq_top (z := v (294 + (y * 12 + z))) (congrArg v (by omega)) ?_
      refine lv_iload hx hb dX0_isHidden_104 (lv_at hl 4 rfl) ?_
      refine lv_icmp_eq (tgt := 111) hx hb dX0_isHidden_106 (by decide) (fun c_7 => ?_) (fun c_7 => ?_)
      · skip
        refine lv_iinc (v := nI (z + 1)) (lv' := [(8, .int (nI (z + 1))), (0, .ref oF), (1, .int (nI f)), (2, .int (nI (n_f v f 0))), (3, .int (nI (n_f v f 1))), (4, .int (v (294 + (n_f v f 0 * 12 + n_f v f 1)))), (5, .int (nI (min (n_f v f 0 + n_f v f 2 + 1) 6))), (6, .int (nI (min (n_f v f 1 + n_f v f 3 + 1) 12))), (7, .int (nI y))]) hx hb dX0_isHidden_111 hl (k := 8) rfl (nI_1 z) (by decide) rfl (fun ls hl => ?_)
        refine lv_goto (tgt := 83) hx hb dX0_isHidden_114 (by decide) ?_
        exact ih_4 (z + 1) ⟨(by omega), (by intro k hk hy hz; rcases Nat.lt_or_ge (k % 12) z with q | q; exact iz2 k hk hy q; intro _; rw [show 294 + k = 294 + (y * 12 + z) by omega]; assumption)⟩ (by show 12 - (z + 1) < 12 - z; omega) _ (lv_sub hl [1, 2, 3, 4, 5, 6, 7, 8, 0] rfl)
      · skip
        refine lv_iconst (v := 0) hx hb dX0_isHidden_109 (by decide) ?_
        exact kq_retz hx hb hr hlocks dX0_isHidden_110 (Or.inl rfl) (by rw [if_neg (fun q => absurd (n_hid_iff.mp q (y * 12 + z) (by omega)) (by rw [n_hidP, show (y * 12 + z) / 12 = y by omega, show (y * 12 + z) % 12 = z by omega]; exact fun q => absurd (q ⟨⟨by omega, by omega⟩, ⟨by omega, by omega⟩⟩) (by assumption)))])
set_option maxHeartbeats 4000000 in
set_option maxRecDepth 100000 in
theorem c_X0_contrastOn (l : Launch) (dC : Nat → ClassId) (dI : Nat → Nat → Nat) (cI : ClassId) (sz : Nat) (oF : Nat) (oN : Nat) (oS : Nat) (rv : Nat) (rs : Nat) (rp : Nat) (rt : Nat) (rl : Nat) (cnt : Int32) (v : Nat → Int32) (fp : Nat → Int32) (ft : Nat → Int32) (fl : Nat → Int32) (f : Nat) (n : Nat) (hI : n_I v) (hf : f < 4) (ht : 0 < n_f v f 2) (hn : n < 1000) : Met l yX0_contrastOn wsX0_contrastOn ({ frames := 3, cells := 0, slots := 0, locals := 76 }) (kq_M dC dI cI [.ref oF, .int (nI f), .int (nI n)] sz [(oF, .inr (0, [.ref oS, .ref oN])), (oN, .inr (1, [.ref oS, .ref rp, .ref rt, .ref rl])), (oS, .inr (3, [.ref rv, .ref rs, .int cnt])), (rv, .inl (cI, 385, .inl v)), (rp, .inl (cI, 72, .inl fp)), (rt, .inl (cI, 72, .inl ft)), (rl, .inl (cI, 72, .inl fl))]) (va_Qi (fun (r : Int32) (u : (Nat → Int32) × (Nat → Int32) × (Nat → Int32)) => r = n_ct v f n) (kq_B dC dI (va_A [(oF, .inr (0, [.ref oS, .ref oN])), (oN, .inr (1, [.ref oS, .ref rp, .ref rt, .ref rl])), (oS, .inr (3, [.ref rv, .ref rs, .int cnt])), (rv, .inl (cI, 385, .inl v)), (rp, .inl (cI, 72, .inl fp)), (rt, .inl (cI, 72, .inl ft)), (rl, .inl (cI, 72, .inl fl))] sz) (fun u : (Nat → Int32) × (Nat → Int32) × (Nat → Int32) => [(oF, .inr (0, [.ref oS, .ref oN])), (oN, .inr (1, [.ref oS, .ref rp, .ref rt, .ref rl])), (oS, .inr (3, [.ref rv, .ref rs, .int cnt])), (rv, .inl (cI, 385, .inl v)), (rp, .inl (cI, 72, .inl u.1)), (rt, .inl (cI, 72, .inl u.2.1)), (rl, .inl (cI, 72, .inl u.2.2))])) (va_A [(oF, .inr (0, [.ref oS, .ref oN])), (oN, .inr (1, [.ref oS, .ref rp, .ref rt, .ref rl])), (oS, .inr (3, [.ref rv, .ref rs, .int cnt])), (rv, .inl (cI, 385, .inl v)), (rp, .inl (cI, 72, .inl fp)), (rt, .inl (cI, 72, .inl ft)), (rl, .inl (cI, 72, .inl fl))] sz)) 0 0 (va_A [(oF, .inr (0, [.ref oS, .ref oN])), (oN, .inr (1, [.ref oS, .ref rp, .ref rt, .ref rl])), (oS, .inr (3, [.ref rv, .ref rs, .int cnt])), (rv, .inl (cI, 385, .inl v)), (rp, .inl (cI, 72, .inl fp)), (rt, .inl (cI, 72, .inl ft)), (rl, .inl (cI, 72, .inl fl))] sz) := by
  refine kq_startM (cc := cX0_contrastOn) (maxL := 3) (ret := (some .int)) (by decide) rfl (Nat.le_of_ble_eq_true rfl) ?_
  intro p e s m below meth c hx hb hr hml hown hlocks hts hsz hA hP hD hS hK hnm ls hl
  subst hsz
  generalize hAe : va_A [(oF, .inr (0, [.ref oS, .ref oN])), (oN, .inr (1, [.ref oS, .ref rp, .ref rt, .ref rl])), (oS, .inr (3, [.ref rv, .ref rs, .int cnt])), (rv, .inl (cI, 385, .inl v)), (rp, .inl (cI, 72, .inl fp)), (rt, .inl (cI, 72, .inl ft)), (rl, .inl (cI, 72, .inl fl))] s.heap.size = A at hA hD hS ⊢
  have hown : s.vm.findClass RX0 = some m.cls := hown
  have hl : lv_has ls 3 [(0, .ref oF), (1, .int (nI f)), (2, .int (nI n))] := hl
  have hfr := n_I_fr hI hf
  have hw0 : 0 < n_f v f 3 := hfr.2.1 ht
  refine lv_aload_n hx hb dX0_contrastOn_0 rfl (lv_at hl 0 rfl) ?_
  refine va_get (D := (dC, dI)) (ci := 0) (v := .ref oN) (C := RX0) (T := TX0) (N := 2) hx hb hts (by decide +kernel) hown hK.1 hP 0 rfl rfl 1 (by decide) (hts (.fieldLink RX0 15 "NoteWatermarks$Figures" "note" "LNoteWatermarks$Note;") (by decide +kernel)) (fun _ h9 => h9) rfl dX0_contrastOn_1 ?_
  refine lv_iload_n hx hb dX0_contrastOn_4 rfl (lv_at hl 2 rfl) ?_
  refine kq_callMv (wr := [(oF, .inr (0, [.ref oS, .ref oN]))]) (va_runV (As := [.int (nI n)]) (rest := []) ⟨hx, hb, hml, hown, hts⟩ (c_X1_look l dC dI cI s.heap.size oN oS rv rs rp rt rl cnt v fp ft fl n (by first | assumption | omega) (by first | assumption | omega)) (cwV 1 hts gX0_contrastOn_X1_look rfl rfl rfl (by decide +kernel) ⟨Nat.le_of_ble_eq_true rfl, Nat.le_of_ble_eq_true rfl⟩) (kq_preV (ci := 1) (q0 := 0) (hP.sub [1, 2, 3, 4, 5, 6] rfl) (hD.sub [1, 2, 3, 4, 5, 6] (by decide) rfl) hK rfl rfl) rfl rfl hl.1 rfl (lv_room (Nat.le_of_ble_eq_true rfl)) dX0_contrastOn_5 ⟨Nat.le_of_ble_eq_true rfl, Nat.le_of_ble_eq_true rfl⟩) hP hD hS hA [1, 2, 3, 4, 5, 6] [0] rfl rfl (by decide) (by decide) (fun u_2 H locs hw_3 hP hD hS => ?_)
  obtain ⟨gp_4, gt_5, gl_6⟩ := u_2
  have hP : va_P (dC, dI) vwCl [(oF, .inr (0, [.ref oS, .ref oN])), (oN, .inr (1, [.ref oS, .ref rp, .ref rt, .ref rl])), (oS, .inr (3, [.ref rv, .ref rs, .int cnt])), (rv, .inl (cI, 385, .inl v)), (rp, .inl (cI, 72, .inl gp_4)), (rt, .inl (cI, 72, .inl gt_5)), (rl, .inl (cI, 72, .inl gl_6))] H := hP
  have hD : va_D A [(oF, .inr (0, [.ref oS, .ref oN])), (oN, .inr (1, [.ref oS, .ref rp, .ref rt, .ref rl])), (oS, .inr (3, [.ref rv, .ref rs, .int cnt])), (rv, .inl (cI, 385, .inl v)), (rp, .inl (cI, 72, .inl gp_4)), (rt, .inl (cI, 72, .inl gt_5)), (rl, .inl (cI, 72, .inl gl_6))] := hD
  try dsimp only at hw_3
  have hlk := hw_3
  refine lv_aload_n hx hb dX0_contrastOn_8 rfl (lv_at hl 0 rfl) ?_
  refine va_get (D := (dC, dI)) (ci := 0) (v := .ref oN) (C := RX0) (T := TX0) (N := 2) hx hb hts (by decide +kernel) hown hK.1 hP 0 rfl rfl 1 (by decide) (hts (.fieldLink RX0 15 "NoteWatermarks$Figures" "note" "LNoteWatermarks$Note;") (by decide +kernel)) (fun _ h9 => h9) rfl dX0_contrastOn_9 ?_
  refine lv_aload_n hx hb dX0_contrastOn_12 rfl (lv_at hl 0 rfl) ?_
  refine lv_iload_n hx hb dX0_contrastOn_13 rfl (lv_at hl 1 rfl) ?_
  refine kq_cV (As := [.int (nI f)]) (rest := [.ref oN]) ⟨hx, hb, hml, hown, hts⟩ (c_X0_firstRow l dC dI cI oF oN oS rv rs cnt v f (by first | assumption | omega) (by first | assumption | omega)) (cwV 1 hts gX0_contrastOn_X0_firstRow rfl rfl rfl (by decide +kernel) ⟨Nat.le_of_ble_eq_true rfl, Nat.le_of_ble_eq_true rfl⟩) (hP.sub [0, 2, 3] rfl) hK (ci := 0) (q0 := 0) rfl rfl rfl rfl hl.1 rfl (Nat.le_of_ble_eq_true rfl) dX0_contrastOn_14 ⟨Nat.le_of_ble_eq_true rfl, Nat.le_of_ble_eq_true rfl⟩ ?_
  refine lv_aload_n hx hb dX0_contrastOn_17 rfl (lv_at hl 0 rfl) ?_
  refine lv_iload_n hx hb dX0_contrastOn_18 rfl (lv_at hl 1 rfl) ?_
  refine kq_cV (As := [.int (nI f)]) (rest := [.int (nI (n_f v f 0)), .ref oN]) ⟨hx, hb, hml, hown, hts⟩ (c_X0_firstColumn l dC dI cI oF oN oS rv rs cnt v f (by first | assumption | omega) (by first | assumption | omega)) (cwV 1 hts gX0_contrastOn_X0_firstColumn rfl rfl rfl (by decide +kernel) ⟨Nat.le_of_ble_eq_true rfl, Nat.le_of_ble_eq_true rfl⟩) (hP.sub [0, 2, 3] rfl) hK (ci := 0) (q0 := 0) rfl rfl rfl rfl hl.1 rfl (Nat.le_of_ble_eq_true rfl) dX0_contrastOn_19 ⟨Nat.le_of_ble_eq_true rfl, Nat.le_of_ble_eq_true rfl⟩ ?_
  refine lv_aload_n hx hb dX0_contrastOn_22 rfl (lv_at hl 0 rfl) ?_
  refine lv_iload_n hx hb dX0_contrastOn_23 rfl (lv_at hl 1 rfl) ?_
  refine kq_cV (As := [.int (nI f)]) (rest := [.int (nI (n_f v f 1)), .int (nI (n_f v f 0)), .ref oN]) ⟨hx, hb, hml, hown, hts⟩ (c_X0_rows l dC dI cI oF oN oS rv rs cnt v f (by first | assumption | omega) (by first | assumption | omega)) (cwV 1 hts gX0_contrastOn_X0_rows rfl rfl rfl (by decide +kernel) ⟨Nat.le_of_ble_eq_true rfl, Nat.le_of_ble_eq_true rfl⟩) (hP.sub [0, 2, 3] rfl) hK (ci := 0) (q0 := 0) rfl rfl rfl rfl hl.1 rfl (Nat.le_of_ble_eq_true rfl) dX0_contrastOn_24 ⟨Nat.le_of_ble_eq_true rfl, Nat.le_of_ble_eq_true rfl⟩ ?_
  refine lv_aload_n hx hb dX0_contrastOn_27 rfl (lv_at hl 0 rfl) ?_
  refine lv_iload_n hx hb dX0_contrastOn_28 rfl (lv_at hl 1 rfl) ?_
  refine kq_cV (As := [.int (nI f)]) (rest := [.int (nI (n_f v f 2)), .int (nI (n_f v f 1)), .int (nI (n_f v f 0)), .ref oN]) ⟨hx, hb, hml, hown, hts⟩ (c_X0_columns l dC dI cI oF oN oS rv rs cnt v f (by first | assumption | omega) (by first | assumption | omega)) (cwV 1 hts gX0_contrastOn_X0_columns rfl rfl rfl (by decide +kernel) ⟨Nat.le_of_ble_eq_true rfl, Nat.le_of_ble_eq_true rfl⟩) (hP.sub [0, 2, 3] rfl) hK (ci := 0) (q0 := 0) rfl rfl rfl rfl hl.1 rfl (Nat.le_of_ble_eq_true rfl) dX0_contrastOn_29 ⟨Nat.le_of_ble_eq_true rfl, Nat.le_of_ble_eq_true rfl⟩ ?_
  refine kq_cV (As := [.int (nI (n_f v f 0)), .int (nI (n_f v f 1)), .int (nI (n_f v f 2)), .int (nI (n_f v f 3))]) (rest := []) ⟨hx, hb, hml, hown, hts⟩ (c_X1_contrastOf l dC dI cI oN oS rp rt rl gl_6 (n_f v f 0) (n_f v f 1) (n_f v f 2) (n_f v f 3) (by first | assumption | omega) (by first | assumption | omega) (by first | assumption | omega) (by first | assumption | omega)) (cwV 4 hts gX0_contrastOn_X1_contrastOf rfl rfl rfl (by decide +kernel) ⟨Nat.le_of_ble_eq_true rfl, Nat.le_of_ble_eq_true rfl⟩) (hP.sub [1, 6] rfl) hK (ci := 1) (q0 := 0) rfl rfl rfl rfl hl.1 rfl (Nat.le_of_ble_eq_true rfl) dX0_contrastOn_32 ⟨Nat.le_of_ble_eq_true rfl, Nat.le_of_ble_eq_true rfl⟩ ?_
  exact kq_retMi (gp_4, gt_5, gl_6) hx hb hr hlocks hP hD hS dX0_contrastOn_35 (by exact n_con_c (fun k hk => (hlk k hk).2.2))
set_option maxHeartbeats 4000000 in
set_option maxRecDepth 100000 in
theorem c_X0_isSeen (l : Launch) (dC : Nat → ClassId) (dI : Nat → Nat → Nat) (cI : ClassId) (oF : Nat) (oN : Nat) (oS : Nat) (rv : Nat) (rs : Nat) (cnt : Int32) (v : Nat → Int32) (f : Nat) (n : Nat) (hI : n_I v) : Met l yX0_isSeen wsX0_isSeen ({ frames := 1, cells := 0, slots := 0, locals := 21 }) (kq_R dC dI cI [.ref oF, .int (n_ct v f n)] [(oF, .inr (0, [.ref oS, .ref oN])), (oS, .inr (3, [.ref rv, .ref rs, .int cnt])), (rv, .inl (cI, 385, .inl v))]) (QcRead (if n_seen v f n then (1:Int32) else 0)) 0 0 (fun _ => False) := by
  refine kq_start (cc := cX0_isSeen) (maxL := 2) (ret := (some .boolean)) (plainFor_of_name (by decide)) rfl (Nat.le_of_ble_eq_true rfl) ?_
  intro p e s m below meth c hx hb hr hml hown hlocks hts hP hK ls hl
  have hown : s.vm.findClass RX0 = some m.cls := hown
  have hl : lv_has ls 2 [(0, .ref oF), (1, .int (n_ct v f n))] := hl
  refine lv_iload_n hx hb dX0_isSeen_0 rfl (lv_at hl 1 rfl) ?_
  refine va_mabs hx hb (hml.trans hl.1.symm) hown (hts (.methodLink RX0 69 Lib.Math.abs.name) (by decide +kernel)) (hts (.static Lib.Math.abs.name) (by decide +kernel)) (hts (.initialized "java/lang/Math") (by decide +kernel)) (hts (.code Lib.Math.abs.name Lib.Math.abs.code 1 (some .int)) (by decide +kernel)) (Nat.le_of_ble_eq_true rfl) (Nat.le_of_ble_eq_true rfl) (Nat.le_of_ble_eq_true rfl) (Nat.le_of_ble_eq_true rfl) dX0_isSeen_1 ?_
  refine lv_aload_n hx hb dX0_isSeen_4 rfl (lv_at hl 0 rfl) ?_
  refine va_get (D := (dC, dI)) (ci := 0) (v := .ref oS) (C := RX0) (T := TX0) (N := 2) hx hb hts (by decide +kernel) hown hK.1 hP 0 rfl rfl 0 (by decide) (hts (.fieldLink RX0 9 "NoteWatermarks$Figures" "state" "LNoteWatermarks$State;") (by decide +kernel)) (fun _ h9 => h9) rfl dX0_isSeen_5 ?_
  refine lv_iconst (v := 2) hx hb dX0_isSeen_8 (by decide) ?_
  refine kq_cS (As := [.int 2]) (rest := [.ref oS, .int (if 0 ≤ (n_ct v f n) then (n_ct v f n) else 0 - (n_ct v f n))]) ⟨hx, hb, hml, hown, hts⟩ (c_X3_settingPlace l dC dI cI 2 ) (va_cwS 1 hts gX0_isSeen_X3_settingPlace rfl rfl rfl (by decide +kernel) ⟨Nat.le_of_ble_eq_true rfl, Nat.le_of_ble_eq_true rfl⟩) (hP.sub [] rfl) hK rfl hl.1 rfl (Nat.le_of_ble_eq_true rfl) dX0_isSeen_9 ⟨Nat.le_of_ble_eq_true rfl, Nat.le_of_ble_eq_true rfl⟩ ?_
  refine kq_cV (As := [.int (nI (382 + 2))]) (rest := [.int (if 0 ≤ (n_ct v f n) then (n_ct v f n) else 0 - (n_ct v f n))]) ⟨hx, hb, hml, hown, hts⟩ (c_X3_at l dC dI cI oS rv rs cnt v (382 + 2) (by first | assumption | omega)) (cwV 1 hts gX0_isSeen_X3_at rfl rfl rfl (by decide +kernel) ⟨Nat.le_of_ble_eq_true rfl, Nat.le_of_ble_eq_true rfl⟩) (hP.sub [1, 2] rfl) hK (ci := 3) (q0 := 0) rfl rfl rfl rfl hl.1 rfl (Nat.le_of_ble_eq_true rfl) dX0_isSeen_12 ⟨Nat.le_of_ble_eq_true rfl, Nat.le_of_ble_eq_true rfl⟩ ?_
  refine kq_top (z := nI (n_s v 2)) ((n_I_s hI).2.2.2.2.2.1) ?_
  refine lv_icmp_lt (tgt := 22) hx hb dX0_isSeen_15 (by decide) (fun c_1 => ?_) (fun c_1 => ?_)
  · skip
    refine lv_iconst (v := 0) hx hb dX0_isSeen_22 (by decide) ?_
    exact kq_retz hx hb hr hlocks dX0_isSeen_23 (Or.inl rfl) (by first | rw [if_neg (fun q : n_seen v f n = true => absurd (of_decide_eq_true (p := nI (n_s v 2) ≤ n_abs (n_ct v f n)) q) (Int32.not_le.mpr (by assumption)))] | rw [if_pos (show n_seen v f n = true from decide_eq_true (Int32.not_lt.mp (by assumption)))])
  · skip
    refine lv_iconst (v := 1) hx hb dX0_isSeen_18 (by decide) ?_
    refine lv_goto (tgt := 23) hx hb dX0_isSeen_19 (by decide) ?_
    exact kq_retz hx hb hr hlocks dX0_isSeen_23 (Or.inr rfl) (by first | rw [if_neg (fun q : n_seen v f n = true => absurd (of_decide_eq_true (p := nI (n_s v 2) ≤ n_abs (n_ct v f n)) q) (Int32.not_le.mpr (by assumption)))] | rw [if_pos (show n_seen v f n = true from decide_eq_true (Int32.not_lt.mp (by assumption)))])
set_option maxHeartbeats 4000000 in
set_option maxRecDepth 100000 in
theorem c_X0_firstNoteSeen (l : Launch) (dC : Nat → ClassId) (dI : Nat → Nat → Nat) (cI : ClassId) (sz : Nat) (oF : Nat) (oN : Nat) (oS : Nat) (rv : Nat) (rs : Nat) (rp : Nat) (rt : Nat) (rl : Nat) (cnt : Int32) (v : Nat → Int32) (fp : Nat → Int32) (ft : Nat → Int32) (fl : Nat → Int32) (f : Nat) (hI : n_I v) (hf : f < 4) (ht : 0 < n_f v f 2) : Met l yX0_firstNoteSeen wsX0_firstNoteSeen ({ frames := 4, cells := 0, slots := 0, locals := 98 }) (kq_M dC dI cI [.ref oF, .int (nI f)] sz [(oF, .inr (0, [.ref oS, .ref oN])), (oN, .inr (1, [.ref oS, .ref rp, .ref rt, .ref rl])), (oS, .inr (3, [.ref rv, .ref rs, .int cnt])), (rv, .inl (cI, 385, .inl v)), (rp, .inl (cI, 72, .inl fp)), (rt, .inl (cI, 72, .inl ft)), (rl, .inl (cI, 72, .inl fl))]) (va_Qi (fun (r : Int32) (u : (Nat → Int32) × (Nat → Int32) × (Nat → Int32)) => r = n_ff (n_seen v f) 100) (kq_B dC dI (va_A [(oF, .inr (0, [.ref oS, .ref oN])), (oN, .inr (1, [.ref oS, .ref rp, .ref rt, .ref rl])), (oS, .inr (3, [.ref rv, .ref rs, .int cnt])), (rv, .inl (cI, 385, .inl v)), (rp, .inl (cI, 72, .inl fp)), (rt, .inl (cI, 72, .inl ft)), (rl, .inl (cI, 72, .inl fl))] sz) (fun u : (Nat → Int32) × (Nat → Int32) × (Nat → Int32) => [(oF, .inr (0, [.ref oS, .ref oN])), (oN, .inr (1, [.ref oS, .ref rp, .ref rt, .ref rl])), (oS, .inr (3, [.ref rv, .ref rs, .int cnt])), (rv, .inl (cI, 385, .inl v)), (rp, .inl (cI, 72, .inl u.1)), (rt, .inl (cI, 72, .inl u.2.1)), (rl, .inl (cI, 72, .inl u.2.2))])) (va_A [(oF, .inr (0, [.ref oS, .ref oN])), (oN, .inr (1, [.ref oS, .ref rp, .ref rt, .ref rl])), (oS, .inr (3, [.ref rv, .ref rs, .int cnt])), (rv, .inl (cI, 385, .inl v)), (rp, .inl (cI, 72, .inl fp)), (rt, .inl (cI, 72, .inl ft)), (rl, .inl (cI, 72, .inl fl))] sz)) 0 0 (va_A [(oF, .inr (0, [.ref oS, .ref oN])), (oN, .inr (1, [.ref oS, .ref rp, .ref rt, .ref rl])), (oS, .inr (3, [.ref rv, .ref rs, .int cnt])), (rv, .inl (cI, 385, .inl v)), (rp, .inl (cI, 72, .inl fp)), (rt, .inl (cI, 72, .inl ft)), (rl, .inl (cI, 72, .inl fl))] sz) := by
  refine kq_startM (cc := cX0_firstNoteSeen) (maxL := 3) (ret := (some .int)) (by decide) rfl (Nat.le_of_ble_eq_true rfl) ?_
  intro p e s m below meth c hx hb hr hml hown hlocks hts hsz hA hP hD hS hK hnm ls hl
  subst hsz
  generalize hAe : va_A [(oF, .inr (0, [.ref oS, .ref oN])), (oN, .inr (1, [.ref oS, .ref rp, .ref rt, .ref rl])), (oS, .inr (3, [.ref rv, .ref rs, .int cnt])), (rv, .inl (cI, 385, .inl v)), (rp, .inl (cI, 72, .inl fp)), (rt, .inl (cI, 72, .inl ft)), (rl, .inl (cI, 72, .inl fl))] s.heap.size = A at hA hD hS ⊢
  have hown : s.vm.findClass RX0 = some m.cls := hown
  have hl : lv_has ls 3 [(0, .ref oF), (1, .int (nI f))] := hl
  refine lv_iconst (v := 0) hx hb dX0_firstNoteSeen_0 (by decide) ?_
  refine lv_istore_n (lv' := [(2, .int 0), (0, .ref oF), (1, .int (nI f))]) hx hb dX0_firstNoteSeen_1 rfl hl (by decide) rfl (fun ls hl => ?_)
  refine kq_loopM4 (A1 := Nat) (A2 := Nat → Int32) (A3 := Nat → Int32) (A4 := Nat → Int32) (fun (n : Nat) (fp : Nat → Int32) (ft : Nat → Int32) (fl : Nat → Int32) => 100 - n) (fun (n : Nat) (fp : Nat → Int32) (ft : Nat → Int32) (fl : Nat → Int32) => (n ≤ 100) ∧ (n_ff (n_seen v f) (100 - n) = n_ff (n_seen v f) 100)) (fun (n : Nat) (fp : Nat → Int32) (ft : Nat → Int32) (fl : Nat → Int32) => [(0, .ref oF), (1, .int (nI f)), (2, .int (nI n))]) (fun (n : Nat) (fp : Nat → Int32) (ft : Nat → Int32) (fl : Nat → Int32) => [(oF, .inr (0, [.ref oS, .ref oN])), (oN, .inr (1, [.ref oS, .ref rp, .ref rt, .ref rl])), (oS, .inr (3, [.ref rv, .ref rs, .int cnt])), (rv, .inl (cI, 385, .inl v)), (rp, .inl (cI, 72, .inl fp)), (rt, .inl (cI, 72, .inl ft)), (rl, .inl (cI, 72, .inl fl))]) (nL := 3) hK ?_ 0 fp ft fl ⟨(by omega), (by rfl)⟩ hP hD hS _ (lv_sub hl [1, 2, 0] rfl)
  intro n fp ft fl hi_2 ih_1 H locs hP hD hS ls hl
  obtain ⟨in_, ig⟩ := hi_2
  have hl : lv_has ls 3 [(0, .ref oF), (1, .int (nI f)), (2, .int (nI n))] := hl
  have hP : va_P (dC, dI) vwCl [(oF, .inr (0, [.ref oS, .ref oN])), (oN, .inr (1, [.ref oS, .ref rp, .ref rt, .ref rl])), (oS, .inr (3, [.ref rv, .ref rs, .int cnt])), (rv, .inl (cI, 385, .inl v)), (rp, .inl (cI, 72, .inl fp)), (rt, .inl (cI, 72, .inl ft)), (rl, .inl (cI, 72, .inl fl))] H := hP
  have hD : va_D A [(oF, .inr (0, [.ref oS, .ref oN])), (oN, .inr (1, [.ref oS, .ref rp, .ref rt, .ref rl])), (oS, .inr (3, [.ref rv, .ref rs, .int cnt])), (rv, .inl (cI, 385, .inl v)), (rp, .inl (cI, 72, .inl fp)), (rt, .inl (cI, 72, .inl ft)), (rl, .inl (cI, 72, .inl fl))] := hD
  refine lv_iload_n hx hb dX0_firstNoteSeen_2 rfl (lv_at hl 2 rfl) ?_
  refine lv_bipush (v := 100) hx hb dX0_firstNoteSeen_3 (by decide) ?_
  refine lv_icmp_ge (tgt := 29) hx hb dX0_firstNoteSeen_5 (by decide) (fun c_3 => ?_) (fun c_3 => ?_)
  · skip
    have c_3 := kq_leN (a := 100) (b := n) c_3 (by omega) (by omega)
    refine lv_iconst (v := (-1)) hx hb dX0_firstNoteSeen_29 (by decide) ?_
    exact kq_retMi (fp, ft, fl) hx hb hr hlocks hP hD hS dX0_firstNoteSeen_30 (by rw [← ig, show 100 - n = 0 by omega]; rfl)
  · skip
    have c_3 := kq_nleN (a := 100) (b := n) c_3 (by omega) (by omega)
    refine lv_aload_n hx hb dX0_firstNoteSeen_8 rfl (lv_at hl 0 rfl) ?_
    refine lv_aload_n hx hb dX0_firstNoteSeen_9 rfl (lv_at hl 0 rfl) ?_
    refine lv_iload_n hx hb dX0_firstNoteSeen_10 rfl (lv_at hl 1 rfl) ?_
    refine lv_iload_n hx hb dX0_firstNoteSeen_11 rfl (lv_at hl 2 rfl) ?_
    refine kq_callMi (wr := []) (va_runV (As := [.int (nI f), .int (nI n)]) (rest := [.ref oF]) ⟨hx, hb, hml, hown, hts⟩ (c_X0_contrastOn l dC dI cI H.size oF oN oS rv rs rp rt rl cnt v fp ft fl f n (by first | assumption | omega) (by first | assumption | omega) (by first | assumption | omega) (by first | assumption | omega)) (cwV 2 hts gX0_firstNoteSeen_X0_contrastOn rfl rfl rfl (by decide +kernel) ⟨Nat.le_of_ble_eq_true rfl, Nat.le_of_ble_eq_true rfl⟩) (kq_preV (ci := 0) (q0 := 0) (hP.sub [0, 1, 2, 3, 4, 5, 6] rfl) (hD.sub [0, 1, 2, 3, 4, 5, 6] (by decide) rfl) hK rfl rfl) rfl rfl hl.1 rfl (lv_room (Nat.le_of_ble_eq_true rfl)) dX0_firstNoteSeen_12 ⟨Nat.le_of_ble_eq_true rfl, Nat.le_of_ble_eq_true rfl⟩) hP hD hS hA [0, 1, 2, 3, 4, 5, 6] [] rfl rfl (by decide) (by decide) (fun r_4 u_5 H locs hw_6 hP hD hS => ?_)
    obtain ⟨gp_7, gt_8, gl_9⟩ := u_5
    have hP : va_P (dC, dI) vwCl [(oF, .inr (0, [.ref oS, .ref oN])), (oN, .inr (1, [.ref oS, .ref rp, .ref rt, .ref rl])), (oS, .inr (3, [.ref rv, .ref rs, .int cnt])), (rv, .inl (cI, 385, .inl v)), (rp, .inl (cI, 72, .inl gp_7)), (rt, .inl (cI, 72, .inl gt_8)), (rl, .inl (cI, 72, .inl gl_9))] H := hP
    have hD : va_D A [(oF, .inr (0, [.ref oS, .ref oN])), (oN, .inr (1, [.ref oS, .ref rp, .ref rt, .ref rl])), (oS, .inr (3, [.ref rv, .ref rs, .int cnt])), (rv, .inl (cI, 385, .inl v)), (rp, .inl (cI, 72, .inl gp_7)), (rt, .inl (cI, 72, .inl gt_8)), (rl, .inl (cI, 72, .inl gl_9))] := hD
    obtain rfl := hw_6
    refine kq_cV (As := [.int (n_ct v f n)]) (rest := []) ⟨hx, hb, hml, hown, hts⟩ (c_X0_isSeen l dC dI cI oF oN oS rv rs cnt v f n (by first | assumption | omega)) (cwV 1 hts gX0_firstNoteSeen_X0_isSeen rfl rfl rfl (by decide +kernel) ⟨Nat.le_of_ble_eq_true rfl, Nat.le_of_ble_eq_true rfl⟩) (hP.sub [0, 2, 3] rfl) hK (ci := 0) (q0 := 0) rfl rfl rfl rfl hl.1 rfl (Nat.le_of_ble_eq_true rfl) dX0_firstNoteSeen_15 ⟨Nat.le_of_ble_eq_true rfl, Nat.le_of_ble_eq_true rfl⟩ ?_
    refine lv_if_eq (tgt := 23) hx hb dX0_firstNoteSeen_18 (by decide) (fun c_10 => ?_) (fun c_10 => ?_)
    · skip
      have c_10 := kq_bf c_10
      refine lv_iinc (v := nI (n + 1)) (lv' := [(2, .int (nI (n + 1))), (0, .ref oF), (1, .int (nI f))]) hx hb dX0_firstNoteSeen_23 hl (k := 2) rfl (nI_1 n) (by decide) rfl (fun ls hl => ?_)
      refine lv_goto (tgt := 2) hx hb dX0_firstNoteSeen_26 (by decide) ?_
      exact ih_1 (n + 1) gp_7 gt_8 gl_9 ⟨(by omega), (by rw [← ig, show 100 - n = (100 - (n + 1)) + 1 by omega, n_ff, if_neg (by rw [show 100 - (100 - (n + 1) + 1) = n by omega]; assumption)])⟩ (by show 100 - (n + 1) < 100 - n; omega) _ _ hP hD hS _ (lv_sub hl [1, 2, 0] rfl)
    · skip
      have c_10 := kq_bt c_10
      refine lv_iload_n hx hb dX0_firstNoteSeen_21 rfl (lv_at hl 2 rfl) ?_
      exact kq_retMi (gp_7, gt_8, gl_9) hx hb hr hlocks hP hD hS dX0_firstNoteSeen_22 (by rw [← ig, show 100 - n = (100 - (n + 1)) + 1 by omega, n_ff, show 100 - (100 - (n + 1) + 1) = n by omega, if_pos (by assumption)])
set_option maxHeartbeats 4000000 in
set_option maxRecDepth 100000 in
theorem c_X0_notesGood (l : Launch) (dC : Nat → ClassId) (dI : Nat → Nat → Nat) (cI : ClassId) (sz : Nat) (oF : Nat) (oN : Nat) (oS : Nat) (rv : Nat) (rs : Nat) (rp : Nat) (rt : Nat) (rl : Nat) (cnt : Int32) (v : Nat → Int32) (fp : Nat → Int32) (ft : Nat → Int32) (fl : Nat → Int32) (f : Nat) (hI : n_I v) (hf : f < 4) (ht : 0 < n_f v f 2) : Met l yX0_notesGood wsX0_notesGood ({ frames := 4, cells := 0, slots := 0, locals := 98 }) (kq_M dC dI cI [.ref oF, .int (nI f)] sz [(oF, .inr (0, [.ref oS, .ref oN])), (oN, .inr (1, [.ref oS, .ref rp, .ref rt, .ref rl])), (oS, .inr (3, [.ref rv, .ref rs, .int cnt])), (rv, .inl (cI, 385, .inl v)), (rp, .inl (cI, 72, .inl fp)), (rt, .inl (cI, 72, .inl ft)), (rl, .inl (cI, 72, .inl fl))]) (va_Qi (fun (r : Int32) (u : (Nat → Int32) × (Nat → Int32) × (Nat → Int32)) => r = n_gd v f 100) (kq_B dC dI (va_A [(oF, .inr (0, [.ref oS, .ref oN])), (oN, .inr (1, [.ref oS, .ref rp, .ref rt, .ref rl])), (oS, .inr (3, [.ref rv, .ref rs, .int cnt])), (rv, .inl (cI, 385, .inl v)), (rp, .inl (cI, 72, .inl fp)), (rt, .inl (cI, 72, .inl ft)), (rl, .inl (cI, 72, .inl fl))] sz) (fun u : (Nat → Int32) × (Nat → Int32) × (Nat → Int32) => [(oF, .inr (0, [.ref oS, .ref oN])), (oN, .inr (1, [.ref oS, .ref rp, .ref rt, .ref rl])), (oS, .inr (3, [.ref rv, .ref rs, .int cnt])), (rv, .inl (cI, 385, .inl v)), (rp, .inl (cI, 72, .inl u.1)), (rt, .inl (cI, 72, .inl u.2.1)), (rl, .inl (cI, 72, .inl u.2.2))])) (va_A [(oF, .inr (0, [.ref oS, .ref oN])), (oN, .inr (1, [.ref oS, .ref rp, .ref rt, .ref rl])), (oS, .inr (3, [.ref rv, .ref rs, .int cnt])), (rv, .inl (cI, 385, .inl v)), (rp, .inl (cI, 72, .inl fp)), (rt, .inl (cI, 72, .inl ft)), (rl, .inl (cI, 72, .inl fl))] sz)) 0 0 (va_A [(oF, .inr (0, [.ref oS, .ref oN])), (oN, .inr (1, [.ref oS, .ref rp, .ref rt, .ref rl])), (oS, .inr (3, [.ref rv, .ref rs, .int cnt])), (rv, .inl (cI, 385, .inl v)), (rp, .inl (cI, 72, .inl fp)), (rt, .inl (cI, 72, .inl ft)), (rl, .inl (cI, 72, .inl fl))] sz) := by
  refine kq_startM (cc := cX0_notesGood) (maxL := 4) (ret := (some .int)) (by decide) rfl (Nat.le_of_ble_eq_true rfl) ?_
  intro p e s m below meth c hx hb hr hml hown hlocks hts hsz hA hP hD hS hK hnm ls hl
  subst hsz
  generalize hAe : va_A [(oF, .inr (0, [.ref oS, .ref oN])), (oN, .inr (1, [.ref oS, .ref rp, .ref rt, .ref rl])), (oS, .inr (3, [.ref rv, .ref rs, .int cnt])), (rv, .inl (cI, 385, .inl v)), (rp, .inl (cI, 72, .inl fp)), (rt, .inl (cI, 72, .inl ft)), (rl, .inl (cI, 72, .inl fl))] s.heap.size = A at hA hD hS ⊢
  have hown : s.vm.findClass RX0 = some m.cls := hown
  have hl : lv_has ls 4 [(0, .ref oF), (1, .int (nI f))] := hl
  refine lv_aload_n hx hb dX0_notesGood_0 rfl (lv_at hl 0 rfl) ?_
  refine lv_iload_n hx hb dX0_notesGood_1 rfl (lv_at hl 1 rfl) ?_
  refine kq_cV (As := [.int (nI f)]) (rest := []) ⟨hx, hb, hml, hown, hts⟩ (c_X0_isHidden l dC dI cI oF oN oS rv rs cnt v f (by first | assumption | omega) (by first | assumption | omega) (by first | assumption | omega)) (cwV 1 hts gX0_notesGood_X0_isHidden rfl rfl rfl (by decide +kernel) ⟨Nat.le_of_ble_eq_true rfl, Nat.le_of_ble_eq_true rfl⟩) (hP.sub [0, 2, 3] rfl) hK (ci := 0) (q0 := 0) rfl rfl rfl rfl hl.1 rfl (Nat.le_of_ble_eq_true rfl) dX0_notesGood_2 ⟨Nat.le_of_ble_eq_true rfl, Nat.le_of_ble_eq_true rfl⟩ ?_
  refine lv_if_ne (tgt := 10) hx hb dX0_notesGood_5 (by decide) (fun c_1 => ?_) (fun c_1 => ?_)
  · skip
    have c_1 := kq_bt c_1
    refine lv_iconst (v := 0) hx hb dX0_notesGood_10 (by decide) ?_
    refine lv_istore_n (lv' := [(2, .int 0), (0, .ref oF), (1, .int (nI f))]) hx hb dX0_notesGood_11 rfl hl (by decide) rfl (fun ls hl => ?_)
    refine lv_iconst (v := 0) hx hb dX0_notesGood_12 (by decide) ?_
    refine lv_istore_n (lv' := [(3, .int 0), (2, .int 0), (0, .ref oF), (1, .int (nI f))]) hx hb dX0_notesGood_13 rfl hl (by decide) rfl (fun ls hl => ?_)
    refine kq_loopM5 (A1 := Nat) (A2 := Int32) (A3 := Nat → Int32) (A4 := Nat → Int32) (A5 := Nat → Int32) (fun (n : Nat) (x : Int32) (fp : Nat → Int32) (ft : Nat → Int32) (fl : Nat → Int32) => 100 - n) (fun (n : Nat) (x : Int32) (fp : Nat → Int32) (ft : Nat → Int32) (fl : Nat → Int32) => (n ≤ 100) ∧ (x = n_sum (fun k => if n_seen v f k then 1 else 0) n)) (fun (n : Nat) (x : Int32) (fp : Nat → Int32) (ft : Nat → Int32) (fl : Nat → Int32) => [(0, .ref oF), (1, .int (nI f)), (2, .int x), (3, .int (nI n))]) (fun (n : Nat) (x : Int32) (fp : Nat → Int32) (ft : Nat → Int32) (fl : Nat → Int32) => [(oF, .inr (0, [.ref oS, .ref oN])), (oN, .inr (1, [.ref oS, .ref rp, .ref rt, .ref rl])), (oS, .inr (3, [.ref rv, .ref rs, .int cnt])), (rv, .inl (cI, 385, .inl v)), (rp, .inl (cI, 72, .inl fp)), (rt, .inl (cI, 72, .inl ft)), (rl, .inl (cI, 72, .inl fl))]) (nL := 4) hK ?_ 0 0 fp ft fl ⟨(by omega), (by rfl)⟩ hP hD hS _ (lv_sub hl [2, 3, 1, 0] rfl)
    intro n x fp ft fl hi_3 ih_2 H locs hP hD hS ls hl
    obtain ⟨in_, ix⟩ := hi_3
    have hl : lv_has ls 4 [(0, .ref oF), (1, .int (nI f)), (2, .int x), (3, .int (nI n))] := hl
    have hP : va_P (dC, dI) vwCl [(oF, .inr (0, [.ref oS, .ref oN])), (oN, .inr (1, [.ref oS, .ref rp, .ref rt, .ref rl])), (oS, .inr (3, [.ref rv, .ref rs, .int cnt])), (rv, .inl (cI, 385, .inl v)), (rp, .inl (cI, 72, .inl fp)), (rt, .inl (cI, 72, .inl ft)), (rl, .inl (cI, 72, .inl fl))] H := hP
    have hD : va_D A [(oF, .inr (0, [.ref oS, .ref oN])), (oN, .inr (1, [.ref oS, .ref rp, .ref rt, .ref rl])), (oS, .inr (3, [.ref rv, .ref rs, .int cnt])), (rv, .inl (cI, 385, .inl v)), (rp, .inl (cI, 72, .inl fp)), (rt, .inl (cI, 72, .inl ft)), (rl, .inl (cI, 72, .inl fl))] := hD
    refine lv_iload_n hx hb dX0_notesGood_14 rfl (lv_at hl 3 rfl) ?_
    refine lv_bipush (v := 100) hx hb dX0_notesGood_15 (by decide) ?_
    refine lv_icmp_ge (tgt := 42) hx hb dX0_notesGood_17 (by decide) (fun c_4 => ?_) (fun c_4 => ?_)
    · skip
      have c_4 := kq_leN (a := 100) (b := n) c_4 (by omega) (by omega)
      refine lv_iload_n hx hb dX0_notesGood_42 rfl (lv_at hl 2 rfl) ?_
      exact kq_retMi (fp, ft, fl) hx hb hr hlocks hP hD hS dX0_notesGood_43 (by rw [n_gd, if_pos (by assumption), ix, show n = 100 by omega])
    · skip
      have c_4 := kq_nleN (a := 100) (b := n) c_4 (by omega) (by omega)
      refine lv_aload_n hx hb dX0_notesGood_20 rfl (lv_at hl 0 rfl) ?_
      refine lv_aload_n hx hb dX0_notesGood_21 rfl (lv_at hl 0 rfl) ?_
      refine lv_iload_n hx hb dX0_notesGood_22 rfl (lv_at hl 1 rfl) ?_
      refine lv_iload_n hx hb dX0_notesGood_23 rfl (lv_at hl 3 rfl) ?_
      refine kq_callMi (wr := []) (va_runV (As := [.int (nI f), .int (nI n)]) (rest := [.ref oF]) ⟨hx, hb, hml, hown, hts⟩ (c_X0_contrastOn l dC dI cI H.size oF oN oS rv rs rp rt rl cnt v fp ft fl f n (by first | assumption | omega) (by first | assumption | omega) (by first | assumption | omega) (by first | assumption | omega)) (cwV 2 hts gX0_notesGood_X0_contrastOn rfl rfl rfl (by decide +kernel) ⟨Nat.le_of_ble_eq_true rfl, Nat.le_of_ble_eq_true rfl⟩) (kq_preV (ci := 0) (q0 := 0) (hP.sub [0, 1, 2, 3, 4, 5, 6] rfl) (hD.sub [0, 1, 2, 3, 4, 5, 6] (by decide) rfl) hK rfl rfl) rfl rfl hl.1 rfl (lv_room (Nat.le_of_ble_eq_true rfl)) dX0_notesGood_24 ⟨Nat.le_of_ble_eq_true rfl, Nat.le_of_ble_eq_true rfl⟩) hP hD hS hA [0, 1, 2, 3, 4, 5, 6] [] rfl rfl (by decide) (by decide) (fun r_5 u_6 H locs hw_7 hP hD hS => ?_)
      obtain ⟨gp_8, gt_9, gl_10⟩ := u_6
      have hP : va_P (dC, dI) vwCl [(oF, .inr (0, [.ref oS, .ref oN])), (oN, .inr (1, [.ref oS, .ref rp, .ref rt, .ref rl])), (oS, .inr (3, [.ref rv, .ref rs, .int cnt])), (rv, .inl (cI, 385, .inl v)), (rp, .inl (cI, 72, .inl gp_8)), (rt, .inl (cI, 72, .inl gt_9)), (rl, .inl (cI, 72, .inl gl_10))] H := hP
      have hD : va_D A [(oF, .inr (0, [.ref oS, .ref oN])), (oN, .inr (1, [.ref oS, .ref rp, .ref rt, .ref rl])), (oS, .inr (3, [.ref rv, .ref rs, .int cnt])), (rv, .inl (cI, 385, .inl v)), (rp, .inl (cI, 72, .inl gp_8)), (rt, .inl (cI, 72, .inl gt_9)), (rl, .inl (cI, 72, .inl gl_10))] := hD
      obtain rfl := hw_7
      refine kq_cV (As := [.int (n_ct v f n)]) (rest := []) ⟨hx, hb, hml, hown, hts⟩ (c_X0_isSeen l dC dI cI oF oN oS rv rs cnt v f n (by first | assumption | omega)) (cwV 1 hts gX0_notesGood_X0_isSeen rfl rfl rfl (by decide +kernel) ⟨Nat.le_of_ble_eq_true rfl, Nat.le_of_ble_eq_true rfl⟩) (hP.sub [0, 2, 3] rfl) hK (ci := 0) (q0 := 0) rfl rfl rfl rfl hl.1 rfl (Nat.le_of_ble_eq_true rfl) dX0_notesGood_27 ⟨Nat.le_of_ble_eq_true rfl, Nat.le_of_ble_eq_true rfl⟩ ?_
      refine lv_if_eq (tgt := 36) hx hb dX0_notesGood_30 (by decide) (fun c_11 => ?_) (fun c_11 => ?_)
      · skip
        have c_11 := kq_bf c_11
        refine lv_iinc (v := nI (n + 1)) (lv' := [(3, .int (nI (n + 1))), (0, .ref oF), (1, .int (nI f)), (2, .int x)]) hx hb dX0_notesGood_36 hl (k := 3) rfl (nI_1 n) (by decide) rfl (fun ls hl => ?_)
        refine lv_goto (tgt := 14) hx hb dX0_notesGood_39 (by decide) ?_
        exact ih_2 (n + 1) x gp_8 gt_9 gl_10 ⟨(by omega), (by rw [n_sum, ← ix]; first | rw [if_pos (by assumption)] | rw [if_neg (by assumption), Int32.add_zero])⟩ (by show 100 - (n + 1) < 100 - n; omega) _ _ hP hD hS _ (lv_sub hl [1, 2, 3, 0] rfl)
      · skip
        have c_11 := kq_bt c_11
        refine lv_iinc (v := x + 1) (lv' := [(2, .int (x + 1)), (0, .ref oF), (1, .int (nI f)), (3, .int (nI n))]) hx hb dX0_notesGood_33 hl (k := 2) rfl (rfl) (by decide) rfl (fun ls hl => ?_)
        refine lv_iinc (v := nI (n + 1)) (lv' := [(3, .int (nI (n + 1))), (2, .int (x + 1)), (0, .ref oF), (1, .int (nI f))]) hx hb dX0_notesGood_36 hl (k := 3) rfl (nI_1 n) (by decide) rfl (fun ls hl => ?_)
        refine lv_goto (tgt := 14) hx hb dX0_notesGood_39 (by decide) ?_
        exact ih_2 (n + 1) (x + 1) gp_8 gt_9 gl_10 ⟨(by omega), (by rw [n_sum, ← ix]; first | rw [if_pos (by assumption)] | rw [if_neg (by assumption), Int32.add_zero])⟩ (by show 100 - (n + 1) < 100 - n; omega) _ _ hP hD hS _ (lv_sub hl [2, 3, 1, 0] rfl)
  · skip
    have c_1 := kq_bf c_1
    refine lv_iconst (v := 0) hx hb dX0_notesGood_8 (by decide) ?_
    exact kq_retMi (fp, ft, fl) hx hb hr hlocks hP hD hS dX0_notesGood_9 (by rw [n_gd, if_neg (by assumption)])
set_option maxHeartbeats 4000000 in
set_option maxRecDepth 100000 in
theorem c_X0_howMany (l : Launch) (dC : Nat → ClassId) (dI : Nat → Nat → Nat) (cI : ClassId) (oF : Nat) (oN : Nat) (oS : Nat) (rv : Nat) (rs : Nat) (cnt : Int32) (v : Nat → Int32) (hI : n_I v) : Met l yX0_howMany wsX0_howMany ({ frames := 3, cells := 0, slots := 0, locals := 63 }) (kq_R dC dI cI [.ref oF] [(oF, .inr (0, [.ref oS, .ref oN])), (oS, .inr (3, [.ref rv, .ref rs, .int cnt])), (rv, .inl (cI, 385, .inl v))]) (QcRead (n_hm v)) 0 0 (fun _ => False) := by
  refine kq_start (cc := cX0_howMany) (maxL := 3) (ret := (some .int)) (plainFor_of_name (by decide)) rfl (Nat.le_of_ble_eq_true rfl) ?_
  intro p e s m below meth c hx hb hr hml hown hlocks hts hP hK ls hl
  have hown : s.vm.findClass RX0 = some m.cls := hown
  have hl : lv_has ls 3 [(0, .ref oF)] := hl
  refine lv_iconst (v := 0) hx hb dX0_howMany_0 (by decide) ?_
  refine lv_istore_n (lv' := [(1, .int 0), (0, .ref oF)]) hx hb dX0_howMany_1 rfl hl (by decide) rfl (fun ls hl => ?_)
  refine lv_iconst (v := 0) hx hb dX0_howMany_2 (by decide) ?_
  refine lv_istore_n (lv' := [(2, .int 0), (1, .int 0), (0, .ref oF)]) hx hb dX0_howMany_3 rfl hl (by decide) rfl (fun ls hl => ?_)
  refine kq_loop2 (A1 := Nat) (A2 := Int32) (fun (f : Nat) (x : Int32) => 4 - f) (fun (f : Nat) (x : Int32) => (f ≤ 4) ∧ (x = n_sum (fun f => if 0 < n_f v f 2 then 1 else 0) f)) (fun (f : Nat) (x : Int32) => [(0, .ref oF), (1, .int x), (2, .int (nI f))]) (nL := 3) ?_ 0 0 ⟨(by omega), (by rfl)⟩ _ (lv_sub hl [2, 1, 0] rfl)
  intro f x hi_2 ih_1 ls hl
  obtain ⟨jf, ix⟩ := hi_2
  have hl : lv_has ls 3 [(0, .ref oF), (1, .int x), (2, .int (nI f))] := hl
  refine lv_iload_n hx hb dX0_howMany_4 rfl (lv_at hl 2 rfl) ?_
  refine lv_iconst (v := 4) hx hb dX0_howMany_5 (by decide) ?_
  refine lv_icmp_ge (tgt := 26) hx hb dX0_howMany_6 (by decide) (fun c_3 => ?_) (fun c_3 => ?_)
  · skip
    have c_3 := kq_leN (a := 4) (b := f) c_3 (by omega) (by omega)
    refine lv_iload_n hx hb dX0_howMany_26 rfl (lv_at hl 1 rfl) ?_
    exact kq_ret hx hb hr hlocks dX0_howMany_27 (by rw [ix, n_hm, show f = 4 by omega])
  · skip
    have c_3 := kq_nleN (a := 4) (b := f) c_3 (by omega) (by omega)
    refine lv_aload_n hx hb dX0_howMany_9 rfl (lv_at hl 0 rfl) ?_
    refine lv_iload_n hx hb dX0_howMany_10 rfl (lv_at hl 2 rfl) ?_
    refine kq_cV (As := [.int (nI f)]) (rest := []) ⟨hx, hb, hml, hown, hts⟩ (c_X0_isThere l dC dI cI oF oN oS rv rs cnt v f (by first | assumption | omega) (by first | assumption | omega)) (cwV 1 hts gX0_howMany_X0_isThere rfl rfl rfl (by decide +kernel) ⟨Nat.le_of_ble_eq_true rfl, Nat.le_of_ble_eq_true rfl⟩) (hP.sub [0, 1, 2] rfl) hK (ci := 0) (q0 := 0) rfl rfl rfl rfl hl.1 rfl (Nat.le_of_ble_eq_true rfl) dX0_howMany_11 ⟨Nat.le_of_ble_eq_true rfl, Nat.le_of_ble_eq_true rfl⟩ ?_
    refine lv_if_eq (tgt := 20) hx hb dX0_howMany_14 (by decide) (fun c_4 => ?_) (fun c_4 => ?_)
    · skip
      have c_4 := kq_bf c_4
      refine lv_iinc (v := nI (f + 1)) (lv' := [(2, .int (nI (f + 1))), (0, .ref oF), (1, .int x)]) hx hb dX0_howMany_20 hl (k := 2) rfl (nI_1 f) (by decide) rfl (fun ls hl => ?_)
      refine lv_goto (tgt := 4) hx hb dX0_howMany_23 (by decide) ?_
      exact ih_1 (f + 1) x ⟨(by omega), (by rw [n_sum, ← ix]; first | rw [if_pos (by assumption)] | rw [if_neg (by assumption), Int32.add_zero])⟩ (by show 4 - (f + 1) < 4 - f; omega) _ (lv_sub hl [1, 2, 0] rfl)
    · skip
      have c_4 := kq_bt c_4
      refine lv_iinc (v := x + 1) (lv' := [(1, .int (x + 1)), (0, .ref oF), (2, .int (nI f))]) hx hb dX0_howMany_17 hl (k := 1) rfl (rfl) (by decide) rfl (fun ls hl => ?_)
      refine lv_iinc (v := nI (f + 1)) (lv' := [(2, .int (nI (f + 1))), (1, .int (x + 1)), (0, .ref oF)]) hx hb dX0_howMany_20 hl (k := 2) rfl (nI_1 f) (by decide) rfl (fun ls hl => ?_)
      refine lv_goto (tgt := 4) hx hb dX0_howMany_23 (by decide) ?_
      exact ih_1 (f + 1) (x + 1) ⟨(by omega), (by rw [n_sum, ← ix]; first | rw [if_pos (by assumption)] | rw [if_neg (by assumption), Int32.add_zero])⟩ (by show 4 - (f + 1) < 4 - f; omega) _ (lv_sub hl [2, 1, 0] rfl)
set_option maxHeartbeats 4000000 in
set_option maxRecDepth 100000 in
theorem c_X0_howManyHidden (l : Launch) (dC : Nat → ClassId) (dI : Nat → Nat → Nat) (cI : ClassId) (oF : Nat) (oN : Nat) (oS : Nat) (rv : Nat) (rs : Nat) (cnt : Int32) (v : Nat → Int32) (hI : n_I v) : Met l yX0_howManyHidden wsX0_howManyHidden ({ frames := 3, cells := 0, slots := 0, locals := 70 }) (kq_R dC dI cI [.ref oF] [(oF, .inr (0, [.ref oS, .ref oN])), (oS, .inr (3, [.ref rv, .ref rs, .int cnt])), (rv, .inl (cI, 385, .inl v))]) (QcRead (n_hh v)) 0 0 (fun _ => False) := by
  refine kq_start (cc := cX0_howManyHidden) (maxL := 3) (ret := (some .int)) (plainFor_of_name (by decide)) rfl (Nat.le_of_ble_eq_true rfl) ?_
  intro p e s m below meth c hx hb hr hml hown hlocks hts hP hK ls hl
  have hown : s.vm.findClass RX0 = some m.cls := hown
  have hl : lv_has ls 3 [(0, .ref oF)] := hl
  refine lv_iconst (v := 0) hx hb dX0_howManyHidden_0 (by decide) ?_
  refine lv_istore_n (lv' := [(1, .int 0), (0, .ref oF)]) hx hb dX0_howManyHidden_1 rfl hl (by decide) rfl (fun ls hl => ?_)
  refine lv_iconst (v := 0) hx hb dX0_howManyHidden_2 (by decide) ?_
  refine lv_istore_n (lv' := [(2, .int 0), (1, .int 0), (0, .ref oF)]) hx hb dX0_howManyHidden_3 rfl hl (by decide) rfl (fun ls hl => ?_)
  refine kq_loop2 (A1 := Nat) (A2 := Int32) (fun (f : Nat) (x : Int32) => 4 - f) (fun (f : Nat) (x : Int32) => (f ≤ 4) ∧ (x = n_sum (fun f => if 0 < n_f v f 2 ∧ n_hid v f then 1 else 0) f)) (fun (f : Nat) (x : Int32) => [(0, .ref oF), (1, .int x), (2, .int (nI f))]) (nL := 3) ?_ 0 0 ⟨(by omega), (by rfl)⟩ _ (lv_sub hl [2, 1, 0] rfl)
  intro f x hi_2 ih_1 ls hl
  obtain ⟨jf, ix⟩ := hi_2
  have hl : lv_has ls 3 [(0, .ref oF), (1, .int x), (2, .int (nI f))] := hl
  refine lv_iload_n hx hb dX0_howManyHidden_4 rfl (lv_at hl 2 rfl) ?_
  refine lv_iconst (v := 4) hx hb dX0_howManyHidden_5 (by decide) ?_
  refine lv_icmp_ge (tgt := 34) hx hb dX0_howManyHidden_6 (by decide) (fun c_3 => ?_) (fun c_3 => ?_)
  · skip
    have c_3 := kq_leN (a := 4) (b := f) c_3 (by omega) (by omega)
    refine lv_iload_n hx hb dX0_howManyHidden_34 rfl (lv_at hl 1 rfl) ?_
    exact kq_ret hx hb hr hlocks dX0_howManyHidden_35 (by rw [ix, n_hh, show f = 4 by omega])
  · skip
    have c_3 := kq_nleN (a := 4) (b := f) c_3 (by omega) (by omega)
    refine lv_aload_n hx hb dX0_howManyHidden_9 rfl (lv_at hl 0 rfl) ?_
    refine lv_iload_n hx hb dX0_howManyHidden_10 rfl (lv_at hl 2 rfl) ?_
    refine kq_cV (As := [.int (nI f)]) (rest := []) ⟨hx, hb, hml, hown, hts⟩ (c_X0_isThere l dC dI cI oF oN oS rv rs cnt v f (by first | assumption | omega) (by first | assumption | omega)) (cwV 1 hts gX0_howManyHidden_X0_isThere rfl rfl rfl (by decide +kernel) ⟨Nat.le_of_ble_eq_true rfl, Nat.le_of_ble_eq_true rfl⟩) (hP.sub [0, 1, 2] rfl) hK (ci := 0) (q0 := 0) rfl rfl rfl rfl hl.1 rfl (Nat.le_of_ble_eq_true rfl) dX0_howManyHidden_11 ⟨Nat.le_of_ble_eq_true rfl, Nat.le_of_ble_eq_true rfl⟩ ?_
    refine lv_if_eq (tgt := 28) hx hb dX0_howManyHidden_14 (by decide) (fun c_4 => ?_) (fun c_4 => ?_)
    · skip
      have c_4 := kq_bf c_4
      refine lv_iinc (v := nI (f + 1)) (lv' := [(2, .int (nI (f + 1))), (0, .ref oF), (1, .int x)]) hx hb dX0_howManyHidden_28 hl (k := 2) rfl (nI_1 f) (by decide) rfl (fun ls hl => ?_)
      refine lv_goto (tgt := 4) hx hb dX0_howManyHidden_31 (by decide) ?_
      exact ih_1 (f + 1) x ⟨(by omega), (by rw [n_sum, ← ix]; first | rw [if_pos (by first | exact ⟨by assumption, by assumption⟩ | exact ⟨by assumption, by assumption, by assumption⟩)] | rw [if_neg (fun q => absurd q.1 (by assumption)), Int32.add_zero] | rw [if_neg (fun q => absurd q.2 (by assumption)), Int32.add_zero] | rw [if_neg (fun q => absurd q.2.1 (by assumption)), Int32.add_zero] | rw [if_neg (fun q => absurd q.2.2 (by assumption)), Int32.add_zero])⟩ (by show 4 - (f + 1) < 4 - f; omega) _ (lv_sub hl [1, 2, 0] rfl)
    · skip
      have c_4 := kq_bt c_4
      refine lv_aload_n hx hb dX0_howManyHidden_17 rfl (lv_at hl 0 rfl) ?_
      refine lv_iload_n hx hb dX0_howManyHidden_18 rfl (lv_at hl 2 rfl) ?_
      refine kq_cV (As := [.int (nI f)]) (rest := []) ⟨hx, hb, hml, hown, hts⟩ (c_X0_isHidden l dC dI cI oF oN oS rv rs cnt v f (by first | assumption | omega) (by first | assumption | omega) (by first | assumption | omega)) (cwV 1 hts gX0_howManyHidden_X0_isHidden rfl rfl rfl (by decide +kernel) ⟨Nat.le_of_ble_eq_true rfl, Nat.le_of_ble_eq_true rfl⟩) (hP.sub [0, 1, 2] rfl) hK (ci := 0) (q0 := 0) rfl rfl rfl rfl hl.1 rfl (Nat.le_of_ble_eq_true rfl) dX0_howManyHidden_19 ⟨Nat.le_of_ble_eq_true rfl, Nat.le_of_ble_eq_true rfl⟩ ?_
      refine lv_if_eq (tgt := 28) hx hb dX0_howManyHidden_22 (by decide) (fun c_5 => ?_) (fun c_5 => ?_)
      · skip
        have c_5 := kq_bf c_5
        refine lv_iinc (v := nI (f + 1)) (lv' := [(2, .int (nI (f + 1))), (0, .ref oF), (1, .int x)]) hx hb dX0_howManyHidden_28 hl (k := 2) rfl (nI_1 f) (by decide) rfl (fun ls hl => ?_)
        refine lv_goto (tgt := 4) hx hb dX0_howManyHidden_31 (by decide) ?_
        exact ih_1 (f + 1) x ⟨(by omega), (by rw [n_sum, ← ix]; first | rw [if_pos (by first | exact ⟨by assumption, by assumption⟩ | exact ⟨by assumption, by assumption, by assumption⟩)] | rw [if_neg (fun q => absurd q.1 (by assumption)), Int32.add_zero] | rw [if_neg (fun q => absurd q.2 (by assumption)), Int32.add_zero] | rw [if_neg (fun q => absurd q.2.1 (by assumption)), Int32.add_zero] | rw [if_neg (fun q => absurd q.2.2 (by assumption)), Int32.add_zero])⟩ (by show 4 - (f + 1) < 4 - f; omega) _ (lv_sub hl [1, 2, 0] rfl)
      · skip
        have c_5 := kq_bt c_5
        refine lv_iinc (v := x + 1) (lv' := [(1, .int (x + 1)), (0, .ref oF), (2, .int (nI f))]) hx hb dX0_howManyHidden_25 hl (k := 1) rfl (rfl) (by decide) rfl (fun ls hl => ?_)
        refine lv_iinc (v := nI (f + 1)) (lv' := [(2, .int (nI (f + 1))), (1, .int (x + 1)), (0, .ref oF)]) hx hb dX0_howManyHidden_28 hl (k := 2) rfl (nI_1 f) (by decide) rfl (fun ls hl => ?_)
        refine lv_goto (tgt := 4) hx hb dX0_howManyHidden_31 (by decide) ?_
        exact ih_1 (f + 1) (x + 1) ⟨(by omega), (by rw [n_sum, ← ix]; first | rw [if_pos (by first | exact ⟨by assumption, by assumption⟩ | exact ⟨by assumption, by assumption, by assumption⟩)] | rw [if_neg (fun q => absurd q.1 (by assumption)), Int32.add_zero] | rw [if_neg (fun q => absurd q.2 (by assumption)), Int32.add_zero] | rw [if_neg (fun q => absurd q.2.1 (by assumption)), Int32.add_zero] | rw [if_neg (fun q => absurd q.2.2 (by assumption)), Int32.add_zero])⟩ (by show 4 - (f + 1) < 4 - f; omega) _ (lv_sub hl [2, 1, 0] rfl)
set_option maxHeartbeats 4000000 in
set_option maxRecDepth 100000 in
theorem c_X0_howManyGood (l : Launch) (dC : Nat → ClassId) (dI : Nat → Nat → Nat) (cI : ClassId) (sz : Nat) (oF : Nat) (oN : Nat) (oS : Nat) (rv : Nat) (rs : Nat) (rp : Nat) (rt : Nat) (rl : Nat) (cnt : Int32) (v : Nat → Int32) (fp : Nat → Int32) (ft : Nat → Int32) (fl : Nat → Int32) (n : Nat) (hI : n_I v) (hn : n < 1000) : Met l yX0_howManyGood wsX0_howManyGood ({ frames := 4, cells := 0, slots := 0, locals := 98 }) (kq_M dC dI cI [.ref oF, .int (nI n)] sz [(oF, .inr (0, [.ref oS, .ref oN])), (oN, .inr (1, [.ref oS, .ref rp, .ref rt, .ref rl])), (oS, .inr (3, [.ref rv, .ref rs, .int cnt])), (rv, .inl (cI, 385, .inl v)), (rp, .inl (cI, 72, .inl fp)), (rt, .inl (cI, 72, .inl ft)), (rl, .inl (cI, 72, .inl fl))]) (va_Qi (fun (r : Int32) (u : (Nat → Int32) × (Nat → Int32) × (Nat → Int32)) => r = n_hg v n) (kq_B dC dI (va_A [(oF, .inr (0, [.ref oS, .ref oN])), (oN, .inr (1, [.ref oS, .ref rp, .ref rt, .ref rl])), (oS, .inr (3, [.ref rv, .ref rs, .int cnt])), (rv, .inl (cI, 385, .inl v)), (rp, .inl (cI, 72, .inl fp)), (rt, .inl (cI, 72, .inl ft)), (rl, .inl (cI, 72, .inl fl))] sz) (fun u : (Nat → Int32) × (Nat → Int32) × (Nat → Int32) => [(oF, .inr (0, [.ref oS, .ref oN])), (oN, .inr (1, [.ref oS, .ref rp, .ref rt, .ref rl])), (oS, .inr (3, [.ref rv, .ref rs, .int cnt])), (rv, .inl (cI, 385, .inl v)), (rp, .inl (cI, 72, .inl u.1)), (rt, .inl (cI, 72, .inl u.2.1)), (rl, .inl (cI, 72, .inl u.2.2))])) (va_A [(oF, .inr (0, [.ref oS, .ref oN])), (oN, .inr (1, [.ref oS, .ref rp, .ref rt, .ref rl])), (oS, .inr (3, [.ref rv, .ref rs, .int cnt])), (rv, .inl (cI, 385, .inl v)), (rp, .inl (cI, 72, .inl fp)), (rt, .inl (cI, 72, .inl ft)), (rl, .inl (cI, 72, .inl fl))] sz)) 0 0 (va_A [(oF, .inr (0, [.ref oS, .ref oN])), (oN, .inr (1, [.ref oS, .ref rp, .ref rt, .ref rl])), (oS, .inr (3, [.ref rv, .ref rs, .int cnt])), (rv, .inl (cI, 385, .inl v)), (rp, .inl (cI, 72, .inl fp)), (rt, .inl (cI, 72, .inl ft)), (rl, .inl (cI, 72, .inl fl))] sz) := by
  refine kq_startM (cc := cX0_howManyGood) (maxL := 4) (ret := (some .int)) (by decide) rfl (Nat.le_of_ble_eq_true rfl) ?_
  intro p e s m below meth c hx hb hr hml hown hlocks hts hsz hA hP hD hS hK hnm ls hl
  subst hsz
  generalize hAe : va_A [(oF, .inr (0, [.ref oS, .ref oN])), (oN, .inr (1, [.ref oS, .ref rp, .ref rt, .ref rl])), (oS, .inr (3, [.ref rv, .ref rs, .int cnt])), (rv, .inl (cI, 385, .inl v)), (rp, .inl (cI, 72, .inl fp)), (rt, .inl (cI, 72, .inl ft)), (rl, .inl (cI, 72, .inl fl))] s.heap.size = A at hA hD hS ⊢
  have hown : s.vm.findClass RX0 = some m.cls := hown
  have hl : lv_has ls 4 [(0, .ref oF), (1, .int (nI n))] := hl
  refine lv_iconst (v := 0) hx hb dX0_howManyGood_0 (by decide) ?_
  refine lv_istore_n (lv' := [(2, .int 0), (0, .ref oF), (1, .int (nI n))]) hx hb dX0_howManyGood_1 rfl hl (by decide) rfl (fun ls hl => ?_)
  refine lv_iconst (v := 0) hx hb dX0_howManyGood_2 (by decide) ?_
  refine lv_istore_n (lv' := [(3, .int 0), (2, .int 0), (0, .ref oF), (1, .int (nI n))]) hx hb dX0_howManyGood_3 rfl hl (by decide) rfl (fun ls hl => ?_)
  refine kq_loopM5 (A1 := Nat) (A2 := Int32) (A3 := Nat → Int32) (A4 := Nat → Int32) (A5 := Nat → Int32) (fun (f : Nat) (x : Int32) (fp : Nat → Int32) (ft : Nat → Int32) (fl : Nat → Int32) => 4 - f) (fun (f : Nat) (x : Int32) (fp : Nat → Int32) (ft : Nat → Int32) (fl : Nat → Int32) => (f ≤ 4) ∧ (x = n_sum (fun f => if 0 < n_f v f 2 ∧ n_hid v f ∧ n_seen v f n then 1 else 0) f)) (fun (f : Nat) (x : Int32) (fp : Nat → Int32) (ft : Nat → Int32) (fl : Nat → Int32) => [(0, .ref oF), (1, .int (nI n)), (2, .int x), (3, .int (nI f))]) (fun (f : Nat) (x : Int32) (fp : Nat → Int32) (ft : Nat → Int32) (fl : Nat → Int32) => [(oF, .inr (0, [.ref oS, .ref oN])), (oN, .inr (1, [.ref oS, .ref rp, .ref rt, .ref rl])), (oS, .inr (3, [.ref rv, .ref rs, .int cnt])), (rv, .inl (cI, 385, .inl v)), (rp, .inl (cI, 72, .inl fp)), (rt, .inl (cI, 72, .inl ft)), (rl, .inl (cI, 72, .inl fl))]) (nL := 4) hK ?_ 0 0 fp ft fl ⟨(by omega), (by rfl)⟩ hP hD hS _ (lv_sub hl [2, 3, 1, 0] rfl)
  intro f x fp ft fl hi_2 ih_1 H locs hP hD hS ls hl
  obtain ⟨jf, ix⟩ := hi_2
  have hl : lv_has ls 4 [(0, .ref oF), (1, .int (nI n)), (2, .int x), (3, .int (nI f))] := hl
  have hP : va_P (dC, dI) vwCl [(oF, .inr (0, [.ref oS, .ref oN])), (oN, .inr (1, [.ref oS, .ref rp, .ref rt, .ref rl])), (oS, .inr (3, [.ref rv, .ref rs, .int cnt])), (rv, .inl (cI, 385, .inl v)), (rp, .inl (cI, 72, .inl fp)), (rt, .inl (cI, 72, .inl ft)), (rl, .inl (cI, 72, .inl fl))] H := hP
  have hD : va_D A [(oF, .inr (0, [.ref oS, .ref oN])), (oN, .inr (1, [.ref oS, .ref rp, .ref rt, .ref rl])), (oS, .inr (3, [.ref rv, .ref rs, .int cnt])), (rv, .inl (cI, 385, .inl v)), (rp, .inl (cI, 72, .inl fp)), (rt, .inl (cI, 72, .inl ft)), (rl, .inl (cI, 72, .inl fl))] := hD
  refine lv_iload_n hx hb dX0_howManyGood_4 rfl (lv_at hl 3 rfl) ?_
  refine lv_iconst (v := 4) hx hb dX0_howManyGood_5 (by decide) ?_
  refine lv_icmp_ge (tgt := 47) hx hb dX0_howManyGood_6 (by decide) (fun c_3 => ?_) (fun c_3 => ?_)
  · skip
    have c_3 := kq_leN (a := 4) (b := f) c_3 (by omega) (by omega)
    refine lv_iload_n hx hb dX0_howManyGood_47 rfl (lv_at hl 2 rfl) ?_
    exact kq_retMi (fp, ft, fl) hx hb hr hlocks hP hD hS dX0_howManyGood_48 (by rw [ix, n_hg, show f = 4 by omega])
  · skip
    have c_3 := kq_nleN (a := 4) (b := f) c_3 (by omega) (by omega)
    refine lv_aload_n hx hb dX0_howManyGood_9 rfl (lv_at hl 0 rfl) ?_
    refine lv_iload_n hx hb dX0_howManyGood_10 rfl (lv_at hl 3 rfl) ?_
    refine kq_cV (As := [.int (nI f)]) (rest := []) ⟨hx, hb, hml, hown, hts⟩ (c_X0_isThere l dC dI cI oF oN oS rv rs cnt v f (by first | assumption | omega) (by first | assumption | omega)) (cwV 1 hts gX0_howManyGood_X0_isThere rfl rfl rfl (by decide +kernel) ⟨Nat.le_of_ble_eq_true rfl, Nat.le_of_ble_eq_true rfl⟩) (hP.sub [0, 2, 3] rfl) hK (ci := 0) (q0 := 0) rfl rfl rfl rfl hl.1 rfl (Nat.le_of_ble_eq_true rfl) dX0_howManyGood_11 ⟨Nat.le_of_ble_eq_true rfl, Nat.le_of_ble_eq_true rfl⟩ ?_
    refine lv_if_eq (tgt := 41) hx hb dX0_howManyGood_14 (by decide) (fun c_4 => ?_) (fun c_4 => ?_)
    · skip
      have c_4 := kq_bf c_4
      refine lv_iinc (v := nI (f + 1)) (lv' := [(3, .int (nI (f + 1))), (0, .ref oF), (1, .int (nI n)), (2, .int x)]) hx hb dX0_howManyGood_41 hl (k := 3) rfl (nI_1 f) (by decide) rfl (fun ls hl => ?_)
      refine lv_goto (tgt := 4) hx hb dX0_howManyGood_44 (by decide) ?_
      exact ih_1 (f + 1) x fp ft fl ⟨(by omega), (by rw [n_sum, ← ix]; first | rw [if_pos (by first | exact ⟨by assumption, by assumption⟩ | exact ⟨by assumption, by assumption, by assumption⟩)] | rw [if_neg (fun q => absurd q.1 (by assumption)), Int32.add_zero] | rw [if_neg (fun q => absurd q.2 (by assumption)), Int32.add_zero] | rw [if_neg (fun q => absurd q.2.1 (by assumption)), Int32.add_zero] | rw [if_neg (fun q => absurd q.2.2 (by assumption)), Int32.add_zero])⟩ (by show 4 - (f + 1) < 4 - f; omega) _ _ hP hD hS _ (lv_sub hl [1, 2, 3, 0] rfl)
    · skip
      have c_4 := kq_bt c_4
      refine lv_aload_n hx hb dX0_howManyGood_17 rfl (lv_at hl 0 rfl) ?_
      refine lv_iload_n hx hb dX0_howManyGood_18 rfl (lv_at hl 3 rfl) ?_
      refine kq_cV (As := [.int (nI f)]) (rest := []) ⟨hx, hb, hml, hown, hts⟩ (c_X0_isHidden l dC dI cI oF oN oS rv rs cnt v f (by first | assumption | omega) (by first | assumption | omega) (by first | assumption | omega)) (cwV 1 hts gX0_howManyGood_X0_isHidden rfl rfl rfl (by decide +kernel) ⟨Nat.le_of_ble_eq_true rfl, Nat.le_of_ble_eq_true rfl⟩) (hP.sub [0, 2, 3] rfl) hK (ci := 0) (q0 := 0) rfl rfl rfl rfl hl.1 rfl (Nat.le_of_ble_eq_true rfl) dX0_howManyGood_19 ⟨Nat.le_of_ble_eq_true rfl, Nat.le_of_ble_eq_true rfl⟩ ?_
      refine lv_if_eq (tgt := 41) hx hb dX0_howManyGood_22 (by decide) (fun c_5 => ?_) (fun c_5 => ?_)
      · skip
        have c_5 := kq_bf c_5
        refine lv_iinc (v := nI (f + 1)) (lv' := [(3, .int (nI (f + 1))), (0, .ref oF), (1, .int (nI n)), (2, .int x)]) hx hb dX0_howManyGood_41 hl (k := 3) rfl (nI_1 f) (by decide) rfl (fun ls hl => ?_)
        refine lv_goto (tgt := 4) hx hb dX0_howManyGood_44 (by decide) ?_
        exact ih_1 (f + 1) x fp ft fl ⟨(by omega), (by rw [n_sum, ← ix]; first | rw [if_pos (by first | exact ⟨by assumption, by assumption⟩ | exact ⟨by assumption, by assumption, by assumption⟩)] | rw [if_neg (fun q => absurd q.1 (by assumption)), Int32.add_zero] | rw [if_neg (fun q => absurd q.2 (by assumption)), Int32.add_zero] | rw [if_neg (fun q => absurd q.2.1 (by assumption)), Int32.add_zero] | rw [if_neg (fun q => absurd q.2.2 (by assumption)), Int32.add_zero])⟩ (by show 4 - (f + 1) < 4 - f; omega) _ _ hP hD hS _ (lv_sub hl [1, 2, 3, 0] rfl)
      · skip
        have c_5 := kq_bt c_5
        refine lv_aload_n hx hb dX0_howManyGood_25 rfl (lv_at hl 0 rfl) ?_
        refine lv_aload_n hx hb dX0_howManyGood_26 rfl (lv_at hl 0 rfl) ?_
        refine lv_iload_n hx hb dX0_howManyGood_27 rfl (lv_at hl 3 rfl) ?_
        refine lv_iload_n hx hb dX0_howManyGood_28 rfl (lv_at hl 1 rfl) ?_
        refine kq_callMi (wr := []) (va_runV (As := [.int (nI f), .int (nI n)]) (rest := [.ref oF]) ⟨hx, hb, hml, hown, hts⟩ (c_X0_contrastOn l dC dI cI H.size oF oN oS rv rs rp rt rl cnt v fp ft fl f n (by first | assumption | omega) (by first | assumption | omega) (by first | assumption | omega) (by first | assumption | omega)) (cwV 2 hts gX0_howManyGood_X0_contrastOn rfl rfl rfl (by decide +kernel) ⟨Nat.le_of_ble_eq_true rfl, Nat.le_of_ble_eq_true rfl⟩) (kq_preV (ci := 0) (q0 := 0) (hP.sub [0, 1, 2, 3, 4, 5, 6] rfl) (hD.sub [0, 1, 2, 3, 4, 5, 6] (by decide) rfl) hK rfl rfl) rfl rfl hl.1 rfl (lv_room (Nat.le_of_ble_eq_true rfl)) dX0_howManyGood_29 ⟨Nat.le_of_ble_eq_true rfl, Nat.le_of_ble_eq_true rfl⟩) hP hD hS hA [0, 1, 2, 3, 4, 5, 6] [] rfl rfl (by decide) (by decide) (fun r_6 u_7 H locs hw_8 hP hD hS => ?_)
        obtain ⟨gp_9, gt_10, gl_11⟩ := u_7
        have hP : va_P (dC, dI) vwCl [(oF, .inr (0, [.ref oS, .ref oN])), (oN, .inr (1, [.ref oS, .ref rp, .ref rt, .ref rl])), (oS, .inr (3, [.ref rv, .ref rs, .int cnt])), (rv, .inl (cI, 385, .inl v)), (rp, .inl (cI, 72, .inl gp_9)), (rt, .inl (cI, 72, .inl gt_10)), (rl, .inl (cI, 72, .inl gl_11))] H := hP
        have hD : va_D A [(oF, .inr (0, [.ref oS, .ref oN])), (oN, .inr (1, [.ref oS, .ref rp, .ref rt, .ref rl])), (oS, .inr (3, [.ref rv, .ref rs, .int cnt])), (rv, .inl (cI, 385, .inl v)), (rp, .inl (cI, 72, .inl gp_9)), (rt, .inl (cI, 72, .inl gt_10)), (rl, .inl (cI, 72, .inl gl_11))] := hD
        obtain rfl := hw_8
        refine kq_cV (As := [.int (n_ct v f n)]) (rest := []) ⟨hx, hb, hml, hown, hts⟩ (c_X0_isSeen l dC dI cI oF oN oS rv rs cnt v f n (by first | assumption | omega)) (cwV 1 hts gX0_howManyGood_X0_isSeen rfl rfl rfl (by decide +kernel) ⟨Nat.le_of_ble_eq_true rfl, Nat.le_of_ble_eq_true rfl⟩) (hP.sub [0, 2, 3] rfl) hK (ci := 0) (q0 := 0) rfl rfl rfl rfl hl.1 rfl (Nat.le_of_ble_eq_true rfl) dX0_howManyGood_32 ⟨Nat.le_of_ble_eq_true rfl, Nat.le_of_ble_eq_true rfl⟩ ?_
        refine lv_if_eq (tgt := 41) hx hb dX0_howManyGood_35 (by decide) (fun c_12 => ?_) (fun c_12 => ?_)
        · skip
          have c_12 := kq_bf c_12
          refine lv_iinc (v := nI (f + 1)) (lv' := [(3, .int (nI (f + 1))), (0, .ref oF), (1, .int (nI n)), (2, .int x)]) hx hb dX0_howManyGood_41 hl (k := 3) rfl (nI_1 f) (by decide) rfl (fun ls hl => ?_)
          refine lv_goto (tgt := 4) hx hb dX0_howManyGood_44 (by decide) ?_
          exact ih_1 (f + 1) x gp_9 gt_10 gl_11 ⟨(by omega), (by rw [n_sum, ← ix]; first | rw [if_pos (by first | exact ⟨by assumption, by assumption⟩ | exact ⟨by assumption, by assumption, by assumption⟩)] | rw [if_neg (fun q => absurd q.1 (by assumption)), Int32.add_zero] | rw [if_neg (fun q => absurd q.2 (by assumption)), Int32.add_zero] | rw [if_neg (fun q => absurd q.2.1 (by assumption)), Int32.add_zero] | rw [if_neg (fun q => absurd q.2.2 (by assumption)), Int32.add_zero])⟩ (by show 4 - (f + 1) < 4 - f; omega) _ _ hP hD hS _ (lv_sub hl [1, 2, 3, 0] rfl)
        · skip
          have c_12 := kq_bt c_12
          refine lv_iinc (v := x + 1) (lv' := [(2, .int (x + 1)), (0, .ref oF), (1, .int (nI n)), (3, .int (nI f))]) hx hb dX0_howManyGood_38 hl (k := 2) rfl (rfl) (by decide) rfl (fun ls hl => ?_)
          refine lv_iinc (v := nI (f + 1)) (lv' := [(3, .int (nI (f + 1))), (2, .int (x + 1)), (0, .ref oF), (1, .int (nI n))]) hx hb dX0_howManyGood_41 hl (k := 3) rfl (nI_1 f) (by decide) rfl (fun ls hl => ?_)
          refine lv_goto (tgt := 4) hx hb dX0_howManyGood_44 (by decide) ?_
          exact ih_1 (f + 1) (x + 1) gp_9 gt_10 gl_11 ⟨(by omega), (by rw [n_sum, ← ix]; first | rw [if_pos (by first | exact ⟨by assumption, by assumption⟩ | exact ⟨by assumption, by assumption, by assumption⟩)] | rw [if_neg (fun q => absurd q.1 (by assumption)), Int32.add_zero] | rw [if_neg (fun q => absurd q.2 (by assumption)), Int32.add_zero] | rw [if_neg (fun q => absurd q.2.1 (by assumption)), Int32.add_zero] | rw [if_neg (fun q => absurd q.2.2 (by assumption)), Int32.add_zero])⟩ (by show 4 - (f + 1) < 4 - f; omega) _ _ hP hD hS _ (lv_sub hl [2, 3, 1, 0] rfl)
