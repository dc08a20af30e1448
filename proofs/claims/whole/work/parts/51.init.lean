/-! The constructors. -/
theorem kq_cA {D : va_G} {cl : List vw_C} {cI cA : ClassId} {s : State} (h : va_K D cl ([(cI, .int)] ++ [(cA, .int)]) s) : cI = cA := Option.some.inj ((show s.vm.findClass ("[" ++ FieldType.int.toString) = some cI from (h.2 0 _ rfl).2).symm.trans (show s.vm.findClass ("[" ++ FieldType.int.toString) = some cA from (h.2 1 _ rfl).2))
def n_v0 : Nat → Int32 := fun j => if 288 ≤ j ∧ j < 291 then 12 else if j = 383 then 12 else if j = 384 then 2 else 0
def n_z0 : Nat → Int32 := fun j => if 3 ≤ j ∧ j < 6 then 12 else if j = 1 then 12 else if j = 2 then 2 else 0

set_option maxHeartbeats 4000000 in
set_option maxRecDepth 100000 in
theorem c_X2_init (l : Launch) (dC : Nat → ClassId) (dI : Nat → Nat → Nat) (cI : ClassId) (sz : Nat) (oR : Nat) (oS : Nat)  : Met l yX2_init wsX2_init ({ frames := 1, cells := 0, slots := 0, locals := 20 }) (kq_M dC dI cI [.ref oR, .ref oS] sz [(oR, .inr (2, [.null]))]) (va_Qv (fun (u : Unit) => True) (kq_B dC dI (va_A [(oR, .inr (2, [.null]))] sz) (fun u : Unit => [(oR, .inr (2, [.ref oS]))])) (va_A [(oR, .inr (2, [.null]))] sz)) 0 0 (va_A [(oR, .inr (2, [.null]))] sz) := by
  refine kq_startM (cc := cX2_init) (maxL := 2) (ret := none) (by decide) rfl (Nat.le_of_ble_eq_true rfl) ?_
  intro p e s m below meth c hx hb hr hml hown hlocks hts hsz hA hP hD hS hK hnm ls hl
  subst hsz
  generalize hAe : va_A [(oR, .inr (2, [.null]))] s.heap.size = A at hA hD hS ⊢
  have hown : s.vm.findClass RX2 = some m.cls := hown
  have hl : lv_has ls 2 [(0, .ref oR), (1, .ref oS)] := hl
  refine lv_aload_n hx hb dX2_init_0 rfl (lv_at hl 0 rfl) ?_
  refine W.objInit hx hb hown (hts (.methodLink RX2 3 objectInit) (by decide +kernel)) (hts (.instanceMethod objectInit) (by decide +kernel)) (hts _ (List.mem_cons_of_mem _ (List.mem_append_left _ (List.mem_of_getElem? (i := 2) rfl)))) rfl (by rw [hml]; exact hl.1) rfl dX2_init_1 (Nat.le_of_ble_eq_true rfl) (Nat.le_of_ble_eq_true rfl) ?_
  refine W.eq (g2 := F0 m 4 ls []) rfl ?_
  refine lv_aload_n hx hb dX2_init_4 rfl (lv_at hl 0 rfl) ?_
  refine lv_aload_n hx hb dX2_init_5 rfl (lv_at hl 1 rfl) ?_
  refine va_putF (D := (dC, dI)) (ci := 2) (v := .ref oS) (ty := .object "NoteWatermarks$State") (C := RX2) (T := TX2) (N := 1) hx hb hts (by decide +kernel) tyX2 tyX2_ok nmX2 hown hK.1 hP hD hS 0 rfl rfl 0 (by decide) (hts (.fieldLink RX2 9 "NoteWatermarks$Rolls" "state" "LNoteWatermarks$State;") (by decide +kernel)) (fun _ h9 => h9) rfl hnm rfl (by decide +kernel) rfl rfl (Nat.le_of_ble_eq_true rfl) dX2_init_6 (fun H locs hP hD hS => ?_)
  have hP : va_P (dC, dI) vwCl [(oR, .inr (2, [.ref oS]))] H := hP
  have hD : va_D A [(oR, .inr (2, [.ref oS]))] := hD
  exact kq_retMv () hx hb hr hlocks hP hD hS dX2_init_9 (by trivial)
set_option maxHeartbeats 4000000 in
set_option maxRecDepth 100000 in
theorem c_X0_init (l : Launch) (dC : Nat → ClassId) (dI : Nat → Nat → Nat) (cI : ClassId) (sz : Nat) (oF : Nat) (oS : Nat) (oN : Nat)  : Met l yX0_init wsX0_init ({ frames := 1, cells := 0, slots := 0, locals := 20 }) (kq_M dC dI cI [.ref oF, .ref oS, .ref oN] sz [(oF, .inr (0, [.null, .null]))]) (va_Qv (fun (u : Unit) => True) (kq_B dC dI (va_A [(oF, .inr (0, [.null, .null]))] sz) (fun u : Unit => [(oF, .inr (0, [.ref oS, .ref oN]))])) (va_A [(oF, .inr (0, [.null, .null]))] sz)) 0 0 (va_A [(oF, .inr (0, [.null, .null]))] sz) := by
  refine kq_startM (cc := cX0_init) (maxL := 3) (ret := none) (by decide) rfl (Nat.le_of_ble_eq_true rfl) ?_
  intro p e s m below meth c hx hb hr hml hown hlocks hts hsz hA hP hD hS hK hnm ls hl
  subst hsz
  generalize hAe : va_A [(oF, .inr (0, [.null, .null]))] s.heap.size = A at hA hD hS ⊢
  have hown : s.vm.findClass RX0 = some m.cls := hown
  have hl : lv_has ls 3 [(0, .ref oF), (1, .ref oS), (2, .ref oN)] := hl
  refine lv_aload_n hx hb dX0_init_0 rfl (lv_at hl 0 rfl) ?_
  refine W.objInit hx hb hown (hts (.methodLink RX0 3 objectInit) (by decide +kernel)) (hts (.instanceMethod objectInit) (by decide +kernel)) (hts _ (List.mem_cons_of_mem _ (List.mem_append_left _ (List.mem_of_getElem? (i := 2) rfl)))) rfl (by rw [hml]; exact hl.1) rfl dX0_init_1 (Nat.le_of_ble_eq_true rfl) (Nat.le_of_ble_eq_true rfl) ?_
  refine W.eq (g2 := F0 m 4 ls []) rfl ?_
  refine lv_aload_n hx hb dX0_init_4 rfl (lv_at hl 0 rfl) ?_
  refine lv_aload_n hx hb dX0_init_5 rfl (lv_at hl 1 rfl) ?_
  refine va_putF (D := (dC, dI)) (ci := 0) (v := .ref oS) (ty := .object "NoteWatermarks$State") (C := RX0) (T := TX0) (N := 2) hx hb hts (by decide +kernel) tyX0 tyX0_ok nmX0 hown hK.1 hP hD hS 0 rfl rfl 0 (by decide) (hts (.fieldLink RX0 9 "NoteWatermarks$Figures" "state" "LNoteWatermarks$State;") (by decide +kernel)) (fun _ h9 => h9) rfl hnm rfl (by decide +kernel) rfl rfl (Nat.le_of_ble_eq_true rfl) dX0_init_6 (fun H locs hP hD hS => ?_)
  have hP : va_P (dC, dI) vwCl [(oF, .inr (0, [.ref oS, .null]))] H := hP
  have hD : va_D A [(oF, .inr (0, [.ref oS, .null]))] := hD
  refine lv_aload_n hx hb dX0_init_9 rfl (lv_at hl 0 rfl) ?_
  refine lv_aload_n hx hb dX0_init_10 rfl (lv_at hl 2 rfl) ?_
  refine va_putF (D := (dC, dI)) (ci := 0) (v := .ref oN) (ty := .object "NoteWatermarks$Note") (C := RX0) (T := TX0) (N := 2) hx hb hts (by decide +kernel) tyX0 tyX0_ok nmX0 hown hK.1 hP hD hS 0 rfl rfl 1 (by decide) (hts (.fieldLink RX0 15 "NoteWatermarks$Figures" "note" "LNoteWatermarks$Note;") (by decide +kernel)) (fun _ h9 => h9) rfl hnm rfl (by decide +kernel) rfl rfl (Nat.le_of_ble_eq_true rfl) dX0_init_11 (fun H locs hP hD hS => ?_)
  have hP : va_P (dC, dI) vwCl [(oF, .inr (0, [.ref oS, .ref oN]))] H := hP
  have hD : va_D A [(oF, .inr (0, [.ref oS, .ref oN]))] := hD
  exact kq_retMv () hx hb hr hlocks hP hD hS dX0_init_14 (by trivial)
set_option maxHeartbeats 4000000 in
set_option maxRecDepth 100000 in
theorem c_X4_init (l : Launch) (dC : Nat → ClassId) (dI : Nat → Nat → Nat) (cI : ClassId) (sz : Nat) (oT : Nat)  : Met l yX4_init wsX4_init ({ frames := 1, cells := 1, slots := 60, locals := 20 }) (kq_M dC dI cI [.ref oT] sz [(oT, .inr (4, [.null, .int 0]))]) (va_Qv (fun (u : Nat) => True) (kq_B dC dI (va_A [(oT, .inr (4, [.null, .int 0]))] sz) (fun u : Nat => [(oT, .inr (4, [.ref u, .int (nI 0)])), (u, .inl (cI, 60, .inl (fun _ => 0)))])) (va_A [(oT, .inr (4, [.null, .int 0]))] sz)) 1 60 (va_A [(oT, .inr (4, [.null, .int 0]))] sz) := by
  refine kq_startM (cc := cX4_init) (maxL := 1) (ret := none) (by decide) rfl (Nat.le_of_ble_eq_true rfl) ?_
  intro p e s m below meth c hx hb hr hml hown hlocks hts hsz hA hP hD hS hK hnm ls hl
  subst hsz
  generalize hAe : va_A [(oT, .inr (4, [.null, .int 0]))] s.heap.size = A at hA hD hS ⊢
  have hown : s.vm.findClass RX4 = some m.cls := hown
  have hl : lv_has ls 1 [(0, .ref oT)] := hl
  refine lv_aload_n hx hb dX4_init_0 rfl (lv_at hl 0 rfl) ?_
  refine W.objInit hx hb hown (hts (.methodLink RX4 3 objectInit) (by decide +kernel)) (hts (.instanceMethod objectInit) (by decide +kernel)) (hts _ (List.mem_cons_of_mem _ (List.mem_append_left _ (List.mem_of_getElem? (i := 2) rfl)))) rfl (by rw [hml]; exact hl.1) rfl dX4_init_1 (Nat.le_of_ble_eq_true rfl) (Nat.le_of_ble_eq_true rfl) ?_
  refine W.eq (g2 := F0 m 4 ls []) rfl ?_
  refine lv_aload_n hx hb dX4_init_4 rfl (lv_at hl 0 rfl) ?_
  refine lv_bipush (v := 60) hx hb dX4_init_5 (by decide) ?_
  refine va_newa (atype := .int) (ty := .int) (N' := 60) (a0 := (60, .inl (fun _ => 0))) hx hb (hts (.arrayClass .int) (by decide +kernel)) rfl hK.1 hP hD hS hA (fun _ => rfl) (by decide) (by decide) (Nat.le_of_ble_eq_true rfl) (Nat.le_of_ble_eq_true rfl) (Nat.le_of_ble_eq_true rfl) dX4_init_7 (fun q_1 cA H hK9 hP hD hS => ?_)
  have e_2 := kq_cA hK9
  subst e_2
  have hP : va_P (dC, dI) vwCl [(oT, .inr (4, [.null, .int 0])), (q_1, .inl (cI, 60, .inl (fun _ => 0)))] H := hP
  have hD : va_D A [(oT, .inr (4, [.null, .int 0])), (q_1, .inl (cI, 60, .inl (fun _ => 0)))] := hD
  refine va_putF (D := (dC, dI)) (ci := 4) (v := .ref q_1) (ty := .array .int) (C := RX4) (T := TX4) (N := 2) hx hb hts (by decide +kernel) tyX4 tyX4_ok nmX4 hown hK.1 hP hD hS 0 rfl rfl 0 (by decide) (hts (.fieldLink RX4 11 "NoteWatermarks$WireText" "codes" "[I") (by decide +kernel)) (fun _ h9 => h9) rfl hnm rfl (by decide +kernel) rfl rfl (Nat.le_of_ble_eq_true rfl) dX4_init_9 (fun H locs hP hD hS => ?_)
  have hP : va_P (dC, dI) vwCl [(oT, .inr (4, [.ref q_1, .int 0])), (q_1, .inl (cI, 60, .inl (fun _ => 0)))] H := hP
  have hD : va_D A [(oT, .inr (4, [.ref q_1, .int 0])), (q_1, .inl (cI, 60, .inl (fun _ => 0)))] := hD
  refine lv_aload_n hx hb dX4_init_12 rfl (lv_at hl 0 rfl) ?_
  refine lv_iconst (v := 0) hx hb dX4_init_13 (by decide) ?_
  refine va_put (D := (dC, dI)) (ci := 4) (v := .int 0) (ty := .int) (C := RX4) (T := TX4) (N := 2) hx hb hts (by decide +kernel) tyX4 tyX4_ok nmX4 hown hK.1 hP hD hS 0 rfl rfl 1 (by decide) (hts (.fieldLink RX4 15 "NoteWatermarks$WireText" "length" "I") (by decide +kernel)) (fun _ h9 => h9) rfl (by decide +kernel) rfl rfl (Nat.le_of_ble_eq_true rfl) dX4_init_14 (fun H locs hP hD hS => ?_)
  have hP : va_P (dC, dI) vwCl [(oT, .inr (4, [.ref q_1, .int 0])), (q_1, .inl (cI, 60, .inl (fun _ => 0)))] H := hP
  have hD : va_D A [(oT, .inr (4, [.ref q_1, .int 0])), (q_1, .inl (cI, 60, .inl (fun _ => 0)))] := hD
  exact kq_retMv (q_1) hx hb hr hlocks hP hD hS dX4_init_17 (by trivial)
set_option maxHeartbeats 4000000 in
set_option maxRecDepth 100000 in
theorem c_X1_init (l : Launch) (dC : Nat → ClassId) (dI : Nat → Nat → Nat) (cI : ClassId) (sz : Nat) (oN : Nat) (oS : Nat)  : Met l yX1_init wsX1_init ({ frames := 1, cells := 3, slots := 216, locals := 20 }) (kq_M dC dI cI [.ref oN, .ref oS] sz [(oN, .inr (1, [.null, .null, .null, .null]))]) (va_Qv (fun (u : Nat × Nat × Nat) => True) (kq_B dC dI (va_A [(oN, .inr (1, [.null, .null, .null, .null]))] sz) (fun u : Nat × Nat × Nat => [(oN, .inr (1, [.ref oS, .ref u.1, .ref u.2.1, .ref u.2.2])), (u.1, .inl (cI, 72, .inl (fun _ => 0))), (u.2.1, .inl (cI, 72, .inl (fun _ => 0))), (u.2.2, .inl (cI, 72, .inl (fun _ => 0)))])) (va_A [(oN, .inr (1, [.null, .null, .null, .null]))] sz)) 3 216 (va_A [(oN, .inr (1, [.null, .null, .null, .null]))] sz) := by
  refine kq_startM (cc := cX1_init) (maxL := 2) (ret := none) (by decide) rfl (Nat.le_of_ble_eq_true rfl) ?_
  intro p e s m below meth c hx hb hr hml hown hlocks hts hsz hA hP hD hS hK hnm ls hl
  subst hsz
  generalize hAe : va_A [(oN, .inr (1, [.null, .null, .null, .null]))] s.heap.size = A at hA hD hS ⊢
  have hown : s.vm.findClass RX1 = some m.cls := hown
  have hl : lv_has ls 2 [(0, .ref oN), (1, .ref oS)] := hl
  refine lv_aload_n hx hb dX1_init_0 rfl (lv_at hl 0 rfl) ?_
  refine W.objInit hx hb hown (hts (.methodLink RX1 3 objectInit) (by decide +kernel)) (hts (.instanceMethod objectInit) (by decide +kernel)) (hts _ (List.mem_cons_of_mem _ (List.mem_append_left _ (List.mem_of_getElem? (i := 2) rfl)))) rfl (by rw [hml]; exact hl.1) rfl dX1_init_1 (Nat.le_of_ble_eq_true rfl) (Nat.le_of_ble_eq_true rfl) ?_
  refine W.eq (g2 := F0 m 4 ls []) rfl ?_
  refine lv_aload_n hx hb dX1_init_4 rfl (lv_at hl 0 rfl) ?_
  refine lv_bipush (v := 72) hx hb dX1_init_5 (by decide) ?_
  refine va_newa (atype := .int) (ty := .int) (N' := 72) (a0 := (72, .inl (fun _ => 0))) hx hb (hts (.arrayClass .int) (by decide +kernel)) rfl hK.1 hP hD hS hA (fun _ => rfl) (by decide) (by decide) (Nat.le_of_ble_eq_true rfl) (Nat.le_of_ble_eq_true rfl) (Nat.le_of_ble_eq_true rfl) dX1_init_7 (fun q_1 cA H hK9 hP hD hS => ?_)
  have e_2 := kq_cA hK9
  subst e_2
  have hP : va_P (dC, dI) vwCl [(oN, .inr (1, [.null, .null, .null, .null])), (q_1, .inl (cI, 72, .inl (fun _ => 0)))] H := hP
  have hD : va_D A [(oN, .inr (1, [.null, .null, .null, .null])), (q_1, .inl (cI, 72, .inl (fun _ => 0)))] := hD
  refine va_putF (D := (dC, dI)) (ci := 1) (v := .ref q_1) (ty := .array .int) (C := RX1) (T := TX1) (N := 4) hx hb hts (by decide +kernel) tyX1 tyX1_ok nmX1 hown hK.1 hP hD hS 0 rfl rfl 1 (by decide) (hts (.fieldLink RX1 9 "NoteWatermarks$Note" "pressures" "[I") (by decide +kernel)) (fun _ h9 => h9) rfl hnm rfl (by decide +kernel) rfl rfl (Nat.le_of_ble_eq_true rfl) dX1_init_9 (fun H locs hP hD hS => ?_)
  have hP : va_P (dC, dI) vwCl [(oN, .inr (1, [.null, .ref q_1, .null, .null])), (q_1, .inl (cI, 72, .inl (fun _ => 0)))] H := hP
  have hD : va_D A [(oN, .inr (1, [.null, .ref q_1, .null, .null])), (q_1, .inl (cI, 72, .inl (fun _ => 0)))] := hD
  refine lv_aload_n hx hb dX1_init_12 rfl (lv_at hl 0 rfl) ?_
  refine lv_bipush (v := 72) hx hb dX1_init_13 (by decide) ?_
  refine va_newa (atype := .int) (ty := .int) (N' := 72) (a0 := (72, .inl (fun _ => 0))) hx hb (hts (.arrayClass .int) (by decide +kernel)) rfl hK.1 hP hD hS hA (fun _ => rfl) (by decide) (by decide) (Nat.le_of_ble_eq_true rfl) (Nat.le_of_ble_eq_true rfl) (Nat.le_of_ble_eq_true rfl) dX1_init_15 (fun q_3 cA H hK9 hP hD hS => ?_)
  have e_4 := kq_cA hK9
  subst e_4
  have hP : va_P (dC, dI) vwCl [(oN, .inr (1, [.null, .ref q_1, .null, .null])), (q_1, .inl (cI, 72, .inl (fun _ => 0))), (q_3, .inl (cI, 72, .inl (fun _ => 0)))] H := hP
  have hD : va_D A [(oN, .inr (1, [.null, .ref q_1, .null, .null])), (q_1, .inl (cI, 72, .inl (fun _ => 0))), (q_3, .inl (cI, 72, .inl (fun _ => 0)))] := hD
  refine va_putF (D := (dC, dI)) (ci := 1) (v := .ref q_3) (ty := .array .int) (C := RX1) (T := TX1) (N := 4) hx hb hts (by decide +kernel) tyX1 tyX1_ok nmX1 hown hK.1 hP hD hS 0 rfl rfl 2 (by decide) (hts (.fieldLink RX1 15 "NoteWatermarks$Note" "tones" "[I") (by decide +kernel)) (fun _ h9 => h9) rfl hnm rfl (by decide +kernel) rfl rfl (Nat.le_of_ble_eq_true rfl) dX1_init_17 (fun H locs hP hD hS => ?_)
  have hP : va_P (dC, dI) vwCl [(oN, .inr (1, [.null, .ref q_1, .ref q_3, .null])), (q_1, .inl (cI, 72, .inl (fun _ => 0))), (q_3, .inl (cI, 72, .inl (fun _ => 0)))] H := hP
  have hD : va_D A [(oN, .inr (1, [.null, .ref q_1, .ref q_3, .null])), (q_1, .inl (cI, 72, .inl (fun _ => 0))), (q_3, .inl (cI, 72, .inl (fun _ => 0)))] := hD
  refine lv_aload_n hx hb dX1_init_20 rfl (lv_at hl 0 rfl) ?_
  refine lv_bipush (v := 72) hx hb dX1_init_21 (by decide) ?_
  refine va_newa (atype := .int) (ty := .int) (N' := 72) (a0 := (72, .inl (fun _ => 0))) hx hb (hts (.arrayClass .int) (by decide +kernel)) rfl hK.1 hP hD hS hA (fun _ => rfl) (by decide) (by decide) (Nat.le_of_ble_eq_true rfl) (Nat.le_of_ble_eq_true rfl) (Nat.le_of_ble_eq_true rfl) dX1_init_23 (fun q_5 cA H hK9 hP hD hS => ?_)
  have e_6 := kq_cA hK9
  subst e_6
  have hP : va_P (dC, dI) vwCl [(oN, .inr (1, [.null, .ref q_1, .ref q_3, .null])), (q_1, .inl (cI, 72, .inl (fun _ => 0))), (q_3, .inl (cI, 72, .inl (fun _ => 0))), (q_5, .inl (cI, 72, .inl (fun _ => 0)))] H := hP
  have hD : va_D A [(oN, .inr (1, [.null, .ref q_1, .ref q_3, .null])), (q_1, .inl (cI, 72, .inl (fun _ => 0))), (q_3, .inl (cI, 72, .inl (fun _ => 0))), (q_5, .inl (cI, 72, .inl (fun _ => 0)))] := hD
  refine va_putF (D := (dC, dI)) (ci := 1) (v := .ref q_5) (ty := .array .int) (C := RX1) (T := TX1) (N := 4) hx hb hts (by decide +kernel) tyX1 tyX1_ok nmX1 hown hK.1 hP hD hS 0 rfl rfl 3 (by decide) (hts (.fieldLink RX1 18 "NoteWatermarks$Note" "lights" "[I") (by decide +kernel)) (fun _ h9 => h9) rfl hnm rfl (by decide +kernel) rfl rfl (Nat.le_of_ble_eq_true rfl) dX1_init_25 (fun H locs hP hD hS => ?_)
  have hP : va_P (dC, dI) vwCl [(oN, .inr (1, [.null, .ref q_1, .ref q_3, .ref q_5])), (q_1, .inl (cI, 72, .inl (fun _ => 0))), (q_3, .inl (cI, 72, .inl (fun _ => 0))), (q_5, .inl (cI, 72, .inl (fun _ => 0)))] H := hP
  have hD : va_D A [(oN, .inr (1, [.null, .ref q_1, .ref q_3, .ref q_5])), (q_1, .inl (cI, 72, .inl (fun _ => 0))), (q_3, .inl (cI, 72, .inl (fun _ => 0))), (q_5, .inl (cI, 72, .inl (fun _ => 0)))] := hD
  refine lv_aload_n hx hb dX1_init_28 rfl (lv_at hl 0 rfl) ?_
  refine lv_aload_n hx hb dX1_init_29 rfl (lv_at hl 1 rfl) ?_
  refine va_putF (D := (dC, dI)) (ci := 1) (v := .ref oS) (ty := .object "NoteWatermarks$State") (C := RX1) (T := TX1) (N := 4) hx hb hts (by decide +kernel) tyX1 tyX1_ok nmX1 hown hK.1 hP hD hS 0 rfl rfl 0 (by decide) (hts (.fieldLink RX1 21 "NoteWatermarks$Note" "state" "LNoteWatermarks$State;") (by decide +kernel)) (fun _ h9 => h9) rfl hnm rfl (by decide +kernel) rfl rfl (Nat.le_of_ble_eq_true rfl) dX1_init_30 (fun H locs hP hD hS => ?_)
  have hP : va_P (dC, dI) vwCl [(oN, .inr (1, [.ref oS, .ref q_1, .ref q_3, .ref q_5])), (q_1, .inl (cI, 72, .inl (fun _ => 0))), (q_3, .inl (cI, 72, .inl (fun _ => 0))), (q_5, .inl (cI, 72, .inl (fun _ => 0)))] H := hP
  have hD : va_D A [(oN, .inr (1, [.ref oS, .ref q_1, .ref q_3, .ref q_5])), (q_1, .inl (cI, 72, .inl (fun _ => 0))), (q_3, .inl (cI, 72, .inl (fun _ => 0))), (q_5, .inl (cI, 72, .inl (fun _ => 0)))] := hD
  exact kq_retMv (q_1, q_3, q_5) hx hb hr hlocks hP hD hS dX1_init_33 (by trivial)
set_option maxHeartbeats 4000000 in
set_option maxRecDepth 100000 in
theorem c_X3_init (l : Launch) (dC : Nat → ClassId) (dI : Nat → Nat → Nat) (cI : ClassId) (sz : Nat) (oS : Nat)  : Met l yX3_init wsX3_init ({ frames := 1, cells := 2, slots := 2695, locals := 20 }) (kq_M dC dI cI [.ref oS] sz [(oS, .inr (3, [.null, .null, .int 0]))]) (va_Qv (fun (u : Nat × Nat) => True) (kq_B dC dI (va_A [(oS, .inr (3, [.null, .null, .int 0]))] sz) (fun u : Nat × Nat => [(oS, .inr (3, [.ref u.1, .ref u.2, .int (nI 0)])), (u.1, .inl (cI, 385, .inl n_v0)), (u.2, .inl (cI, 2310, .inl (fun _ => 0)))])) (va_A [(oS, .inr (3, [.null, .null, .int 0]))] sz)) 2 2695 (va_A [(oS, .inr (3, [.null, .null, .int 0]))] sz) := by
  refine kq_startM (cc := cX3_init) (maxL := 2) (ret := none) (by decide) rfl (Nat.le_of_ble_eq_true rfl) ?_
  intro p e s m below meth c hx hb hr hml hown hlocks hts hsz hA hP hD hS hK hnm ls hl
  subst hsz
  generalize hAe : va_A [(oS, .inr (3, [.null, .null, .int 0]))] s.heap.size = A at hA hD hS ⊢
  have hown : s.vm.findClass RX3 = some m.cls := hown
  have hl : lv_has ls 2 [(0, .ref oS)] := hl
  refine lv_aload_n hx hb dX3_init_0 rfl (lv_at hl 0 rfl) ?_
  refine W.objInit hx hb hown (hts (.methodLink RX3 5 objectInit) (by decide +kernel)) (hts (.instanceMethod objectInit) (by decide +kernel)) (hts _ (List.mem_cons_of_mem _ (List.mem_append_left _ (List.mem_of_getElem? (i := 2) rfl)))) rfl (by rw [hml]; exact hl.1) rfl dX3_init_1 (Nat.le_of_ble_eq_true rfl) (Nat.le_of_ble_eq_true rfl) ?_
  refine W.eq (g2 := F0 m 4 ls []) rfl ?_
  refine lv_aload_n hx hb dX3_init_4 rfl (lv_at hl 0 rfl) ?_
  refine lv_sipush (v := 385) hx hb dX3_init_5 (by decide) ?_
  refine va_newa (atype := .int) (ty := .int) (N' := 385) (a0 := (385, .inl (fun _ => 0))) hx hb (hts (.arrayClass .int) (by decide +kernel)) rfl hK.1 hP hD hS hA (fun _ => rfl) (by decide) (by decide) (Nat.le_of_ble_eq_true rfl) (Nat.le_of_ble_eq_true rfl) (Nat.le_of_ble_eq_true rfl) dX3_init_8 (fun q_1 cA H hK9 hP hD hS => ?_)
  have e_2 := kq_cA hK9
  subst e_2
  have hP : va_P (dC, dI) vwCl [(oS, .inr (3, [.null, .null, .int 0])), (q_1, .inl (cI, 385, .inl (fun _ => 0)))] H := hP
  have hD : va_D A [(oS, .inr (3, [.null, .null, .int 0])), (q_1, .inl (cI, 385, .inl (fun _ => 0)))] := hD
  refine va_putF (D := (dC, dI)) (ci := 3) (v := .ref q_1) (ty := .array .int) (C := RX3) (T := TX3) (N := 3) hx hb hts (by decide +kernel) tyX3 tyX3_ok nmX3 hown hK.1 hP hD hS 0 rfl rfl 0 (by decide) (hts (.fieldLink RX3 11 "NoteWatermarks$State" "values" "[I") (by decide +kernel)) (fun _ h9 => h9) rfl hnm rfl (by decide +kernel) rfl rfl (Nat.le_of_ble_eq_true rfl) dX3_init_10 (fun H locs hP hD hS => ?_)
  have hP : va_P (dC, dI) vwCl [(oS, .inr (3, [.ref q_1, .null, .int 0])), (q_1, .inl (cI, 385, .inl (fun _ => 0)))] H := hP
  have hD : va_D A [(oS, .inr (3, [.ref q_1, .null, .int 0])), (q_1, .inl (cI, 385, .inl (fun _ => 0)))] := hD
  refine lv_aload_n hx hb dX3_init_13 rfl (lv_at hl 0 rfl) ?_
  refine lv_sipush (v := 2310) hx hb dX3_init_14 (by decide) ?_
  refine va_newa (atype := .int) (ty := .int) (N' := 2310) (a0 := (2310, .inl (fun _ => 0))) hx hb (hts (.arrayClass .int) (by decide +kernel)) rfl hK.1 hP hD hS hA (fun _ => rfl) (by decide) (by decide) (Nat.le_of_ble_eq_true rfl) (Nat.le_of_ble_eq_true rfl) (Nat.le_of_ble_eq_true rfl) dX3_init_17 (fun q_3 cA H hK9 hP hD hS => ?_)
  have e_4 := kq_cA hK9
  subst e_4
  have hP : va_P (dC, dI) vwCl [(oS, .inr (3, [.ref q_1, .null, .int 0])), (q_1, .inl (cI, 385, .inl (fun _ => 0))), (q_3, .inl (cI, 2310, .inl (fun _ => 0)))] H := hP
  have hD : va_D A [(oS, .inr (3, [.ref q_1, .null, .int 0])), (q_1, .inl (cI, 385, .inl (fun _ => 0))), (q_3, .inl (cI, 2310, .inl (fun _ => 0)))] := hD
  refine va_putF (D := (dC, dI)) (ci := 3) (v := .ref q_3) (ty := .array .int) (C := RX3) (T := TX3) (N := 3) hx hb hts (by decide +kernel) tyX3 tyX3_ok nmX3 hown hK.1 hP hD hS 0 rfl rfl 1 (by decide) (hts (.fieldLink RX3 15 "NoteWatermarks$State" "saved" "[I") (by decide +kernel)) (fun _ h9 => h9) rfl hnm rfl (by decide +kernel) rfl rfl (Nat.le_of_ble_eq_true rfl) dX3_init_19 (fun H locs hP hD hS => ?_)
  have hP : va_P (dC, dI) vwCl [(oS, .inr (3, [.ref q_1, .ref q_3, .int 0])), (q_1, .inl (cI, 385, .inl (fun _ => 0))), (q_3, .inl (cI, 2310, .inl (fun _ => 0)))] H := hP
  have hD : va_D A [(oS, .inr (3, [.ref q_1, .ref q_3, .int 0])), (q_1, .inl (cI, 385, .inl (fun _ => 0))), (q_3, .inl (cI, 2310, .inl (fun _ => 0)))] := hD
  refine lv_aload_n hx hb dX3_init_22 rfl (lv_at hl 0 rfl) ?_
  refine lv_iconst (v := 0) hx hb dX3_init_23 (by decide) ?_
  refine va_put (D := (dC, dI)) (ci := 3) (v := .int 0) (ty := .int) (C := RX3) (T := TX3) (N := 3) hx hb hts (by decide +kernel) tyX3 tyX3_ok nmX3 hown hK.1 hP hD hS 0 rfl rfl 2 (by decide) (hts (.fieldLink RX3 18 "NoteWatermarks$State" "savedCount" "I") (by decide +kernel)) (fun _ h9 => h9) rfl (by decide +kernel) rfl rfl (Nat.le_of_ble_eq_true rfl) dX3_init_24 (fun H locs hP hD hS => ?_)
  have hP : va_P (dC, dI) vwCl [(oS, .inr (3, [.ref q_1, .ref q_3, .int 0])), (q_1, .inl (cI, 385, .inl (fun _ => 0))), (q_3, .inl (cI, 2310, .inl (fun _ => 0)))] H := hP
  have hD : va_D A [(oS, .inr (3, [.ref q_1, .ref q_3, .int 0])), (q_1, .inl (cI, 385, .inl (fun _ => 0))), (q_3, .inl (cI, 2310, .inl (fun _ => 0)))] := hD
  refine lv_iconst (v := 0) hx hb dX3_init_27 (by decide) ?_
  refine lv_istore_n (lv' := [(1, .int 0), (0, .ref oS)]) hx hb dX3_init_28 rfl hl (by decide) rfl (fun ls hl => ?_)
  refine kq_loopM2 (A1 := Nat) (A2 := Nat → Int32) (fun (k : Nat) (g : Nat → Int32) => 3 - k) (fun (k : Nat) (g : Nat → Int32) => (k ≤ 3) ∧ (∀ j, g j = if 288 ≤ j ∧ j < 288 + k then 12 else 0)) (fun (k : Nat) (g : Nat → Int32) => [(0, .ref oS), (1, .int (nI k))]) (fun (k : Nat) (g : Nat → Int32) => [(oS, .inr (3, [.ref q_1, .ref q_3, .int 0])), (q_1, .inl (cI, 385, .inl g)), (q_3, .inl (cI, 2310, .inl (fun _ => 0)))]) (nL := 2) hK ?_ 0 (fun _ => 0) ⟨(by omega), (by intro j; rw [if_neg (by omega)])⟩ hP hD hS _ (lv_sub hl [1, 0] rfl)
  intro k g hi_6 ih_5 H locs hP hD hS ls hl
  obtain ⟨ik, ig⟩ := hi_6
  have hl : lv_has ls 2 [(0, .ref oS), (1, .int (nI k))] := hl
  have hP : va_P (dC, dI) vwCl [(oS, .inr (3, [.ref q_1, .ref q_3, .int 0])), (q_1, .inl (cI, 385, .inl g)), (q_3, .inl (cI, 2310, .inl (fun _ => 0)))] H := hP
  have hD : va_D A [(oS, .inr (3, [.ref q_1, .ref q_3, .int 0])), (q_1, .inl (cI, 385, .inl g)), (q_3, .inl (cI, 2310, .inl (fun _ => 0)))] := hD
  refine lv_iload_n hx hb dX3_init_29 rfl (lv_at hl 1 rfl) ?_
  refine lv_iconst (v := 3) hx hb dX3_init_30 (by decide) ?_
  refine lv_icmp_ge (tgt := 52) hx hb dX3_init_31 (by decide) (fun c_7 => ?_) (fun c_7 => ?_)
  · skip
    have c_7 := kq_leN (a := 3) (b := k) c_7 (by omega) (by omega)
    refine lv_aload_n hx hb dX3_init_52 rfl (lv_at hl 0 rfl) ?_
    refine va_get (D := (dC, dI)) (ci := 3) (v := .ref q_1) (C := RX3) (T := TX3) (N := 3) hx hb hts (by decide +kernel) hown hK.1 hP 0 rfl rfl 0 (by decide) (hts (.fieldLink RX3 11 "NoteWatermarks$State" "values" "[I") (by decide +kernel)) (fun _ h9 => h9) rfl dX3_init_53 ?_
    refine lv_sipush (v := 383) hx hb dX3_init_56 (by decide) ?_
    refine lv_bipush (v := 12) hx hb dX3_init_59 (by decide) ?_
    refine va_iast hx hb hK.1 hP hD hS 1 0 rfl rfl (vp_in_nI (show 383 < 385 from by omega) (by omega)) dX3_init_61 (fun H locs hP hD hS => ?_)
    rw [show Int32.toNatClampNeg 383 = 383 by decide] at hP hD
    have hP : va_P (dC, dI) vwCl [(oS, .inr (3, [.ref q_1, .ref q_3, .int 0])), (q_1, .inl (cI, 385, .inl (upd g 383 12))), (q_3, .inl (cI, 2310, .inl (fun _ => 0)))] H := hP
    have hD : va_D A [(oS, .inr (3, [.ref q_1, .ref q_3, .int 0])), (q_1, .inl (cI, 385, .inl (upd g 383 12))), (q_3, .inl (cI, 2310, .inl (fun _ => 0)))] := hD
    refine lv_aload_n hx hb dX3_init_62 rfl (lv_at hl 0 rfl) ?_
    refine va_get (D := (dC, dI)) (ci := 3) (v := .ref q_1) (C := RX3) (T := TX3) (N := 3) hx hb hts (by decide +kernel) hown hK.1 hP 0 rfl rfl 0 (by decide) (hts (.fieldLink RX3 11 "NoteWatermarks$State" "values" "[I") (by decide +kernel)) (fun _ h9 => h9) rfl dX3_init_63 ?_
    refine lv_sipush (v := 384) hx hb dX3_init_66 (by decide) ?_
    refine lv_iconst (v := 2) hx hb dX3_init_69 (by decide) ?_
    refine va_iast hx hb hK.1 hP hD hS 1 0 rfl rfl (vp_in_nI (show 384 < 385 from by omega) (by omega)) dX3_init_70 (fun H locs hP hD hS => ?_)
    rw [show Int32.toNatClampNeg 384 = 384 by decide] at hP hD
    have hP : va_P (dC, dI) vwCl [(oS, .inr (3, [.ref q_1, .ref q_3, .int 0])), (q_1, .inl (cI, 385, .inl (upd (upd g 383 12) 384 2))), (q_3, .inl (cI, 2310, .inl (fun _ => 0)))] H := hP
    have hD : va_D A [(oS, .inr (3, [.ref q_1, .ref q_3, .int 0])), (q_1, .inl (cI, 385, .inl (upd (upd g 383 12) 384 2))), (q_3, .inl (cI, 2310, .inl (fun _ => 0)))] := hD
    have hg : upd (upd g 383 12) 384 2 = n_v0 := by funext j; unfold n_v0; by_cases q : j = 384; (rw [q, pk_us]; rfl); by_cases q2 : j = 383; (rw [q2, pk_un (by decide), pk_us]; rfl); rw [pk_un q, pk_un q2, ig j, show k = 3 by omega, if_neg q2, if_neg q]
    rw [hg] at hP hD
    exact kq_retMv (q_1, q_3) hx hb hr hlocks hP hD hS dX3_init_71 (by trivial)
  · skip
    have c_7 := kq_nleN (a := 3) (b := k) c_7 (by omega) (by omega)
    refine lv_aload_n hx hb dX3_init_34 rfl (lv_at hl 0 rfl) ?_
    refine va_get (D := (dC, dI)) (ci := 3) (v := .ref q_1) (C := RX3) (T := TX3) (N := 3) hx hb hts (by decide +kernel) hown hK.1 hP 0 rfl rfl 0 (by decide) (hts (.fieldLink RX3 11 "NoteWatermarks$State" "values" "[I") (by decide +kernel)) (fun _ h9 => h9) rfl dX3_init_35 ?_
    refine lv_sipush (v := 288) hx hb dX3_init_38 (by decide) ?_
    refine lv_iload_n hx hb dX3_init_41 rfl (lv_at hl 1 rfl) ?_
    refine lv_iadd hx hb dX3_init_42 ?_
    refine kq_top (z := nI (288 + k)) (nI_add 288 k) ?_
    refine lv_bipush (v := 12) hx hb dX3_init_43 (by decide) ?_
    refine va_iast hx hb hK.1 hP hD hS 1 0 rfl rfl (vp_in_nI (show 288 + k < 385 from by omega) (by omega)) dX3_init_45 (fun H locs hP hD hS => ?_)
    rw [nI_clamp (Nat.lt_trans (show 288 + k < 385 from by omega) (by omega))] at hP hD
    have hP : va_P (dC, dI) vwCl [(oS, .inr (3, [.ref q_1, .ref q_3, .int 0])), (q_1, .inl (cI, 385, .inl (upd g (288 + k) 12))), (q_3, .inl (cI, 2310, .inl (fun _ => 0)))] H := hP
    have hD : va_D A [(oS, .inr (3, [.ref q_1, .ref q_3, .int 0])), (q_1, .inl (cI, 385, .inl (upd g (288 + k) 12))), (q_3, .inl (cI, 2310, .inl (fun _ => 0)))] := hD
    refine lv_iinc (v := nI (k + 1)) (lv' := [(1, .int (nI (k + 1))), (0, .ref oS)]) hx hb dX3_init_46 hl (k := 1) rfl (nI_1 k) (by decide) rfl (fun ls hl => ?_)
    refine lv_goto (tgt := 29) hx hb dX3_init_49 (by decide) ?_
    exact ih_5 (k + 1) (upd g (288 + k) 12) ⟨(by omega), (by intro j; by_cases q : j = 288 + k; (subst q; rw [pk_us, if_pos (by omega)]); (rw [pk_un q, ig j]; by_cases q2 : 288 ≤ j ∧ j < 288 + k; rw [if_pos q2, if_pos (by omega)]; rw [if_neg q2, if_neg (by omega)]))⟩ (by show 3 - (k + 1) < 3 - k; omega) _ _ hP hD hS _ (lv_sub hl [1, 0] rfl)
set_option maxHeartbeats 4000000 in
set_option maxRecDepth 100000 in
theorem c_X6_init (l : Launch) (dC : Nat → ClassId) (dI : Nat → Nat → Nat) (cI : ClassId) (sz : Nat) (oM : Nat)  : Met l yX6_init wsX6_init ({ frames := 1, cells := 4, slots := 2855, locals := 20 }) (kq_M dC dI cI [.ref oM] sz [(oM, .inr (6, [.int 0, .null, .null, .int 0, .null, .int 0, .int 0, .int 0, .int 0, .int 0, .null, .int 0, .int 0, .long 0]))]) (va_Qv (fun (u : Nat × Nat × Nat × Nat) => True) (kq_B dC dI (va_A [(oM, .inr (6, [.int 0, .null, .null, .int 0, .null, .int 0, .int 0, .int 0, .int 0, .int 0, .null, .int 0, .int 0, .long 0]))] sz) (fun u : Nat × Nat × Nat × Nat => [(oM, .inr (6, [.int 0, .ref u.1, .ref u.2.1, .int (nI 0), .ref u.2.2.1, .int (nI 0), .int 0, .int 0, .int 0, .int 0, .ref u.2.2.2, .int 0, .int 0, .long 0])), (u.1, .inl (cI, 389, .inl n_z0)), (u.2.1, .inl (cI, 2334, .inl (fun _ => 0))), (u.2.2.1, .inl (cI, 60, .inl (fun _ => 0))), (u.2.2.2, .inl (cI, 72, .inl (fun _ => 0)))])) (va_A [(oM, .inr (6, [.int 0, .null, .null, .int 0, .null, .int 0, .int 0, .int 0, .int 0, .int 0, .null, .int 0, .int 0, .long 0]))] sz)) 4 2855 (va_A [(oM, .inr (6, [.int 0, .null, .null, .int 0, .null, .int 0, .int 0, .int 0, .int 0, .int 0, .null, .int 0, .int 0, .long 0]))] sz) := by
  refine kq_startM (cc := cX6_init) (maxL := 2) (ret := none) (by decide) rfl (Nat.le_of_ble_eq_true rfl) ?_
  intro p e s m below meth c hx hb hr hml hown hlocks hts hsz hA hP hD hS hK hnm ls hl
  subst hsz
  generalize hAe : va_A [(oM, .inr (6, [.int 0, .null, .null, .int 0, .null, .int 0, .int 0, .int 0, .int 0, .int 0, .null, .int 0, .int 0, .long 0]))] s.heap.size = A at hA hD hS ⊢
  have hown : s.vm.findClass RX6 = some m.cls := hown
  have hl : lv_has ls 2 [(0, .ref oM)] := hl
  refine lv_aload_n hx hb dX6_init_0 rfl (lv_at hl 0 rfl) ?_
  refine W.objInit hx hb hown (hts (.methodLink RX6 1 objectInit) (by decide +kernel)) (hts (.instanceMethod objectInit) (by decide +kernel)) (hts _ (List.mem_cons_of_mem _ (List.mem_append_left _ (List.mem_of_getElem? (i := 2) rfl)))) rfl (by rw [hml]; exact hl.1) rfl dX6_init_1 (Nat.le_of_ble_eq_true rfl) (Nat.le_of_ble_eq_true rfl) ?_
  refine W.eq (g2 := F0 m 4 ls []) rfl ?_
  refine lv_aload_n hx hb dX6_init_4 rfl (lv_at hl 0 rfl) ?_
  refine lv_sipush (v := 389) hx hb dX6_init_5 (by decide) ?_
  refine va_newa (atype := .int) (ty := .int) (N' := 389) (a0 := (389, .inl (fun _ => 0))) hx hb (hts (.arrayClass .int) (by decide +kernel)) rfl hK.1 hP hD hS hA (fun _ => rfl) (by decide) (by decide) (Nat.le_of_ble_eq_true rfl) (Nat.le_of_ble_eq_true rfl) (Nat.le_of_ble_eq_true rfl) dX6_init_8 (fun q_1 cA H hK9 hP hD hS => ?_)
  have e_2 := kq_cA hK9
  subst e_2
  have hP : va_P (dC, dI) vwCl [(oM, .inr (6, [.int 0, .null, .null, .int 0, .null, .int 0, .int 0, .int 0, .int 0, .int 0, .null, .int 0, .int 0, .long 0])), (q_1, .inl (cI, 389, .inl (fun _ => 0)))] H := hP
  have hD : va_D A [(oM, .inr (6, [.int 0, .null, .null, .int 0, .null, .int 0, .int 0, .int 0, .int 0, .int 0, .null, .int 0, .int 0, .long 0])), (q_1, .inl (cI, 389, .inl (fun _ => 0)))] := hD
  refine va_putF (D := (dC, dI)) (ci := 6) (v := .ref q_1) (ty := .array .int) (C := RX6) (T := TX6) (N := 14) hx hb hts (by decide +kernel) tyX6 tyX6_ok nmX6 hown hK.1 hP hD hS 0 rfl rfl 1 (by decide) (hts (.fieldLink RX6 7 "NoteWatermarksModel" "z" "[I") (by decide +kernel)) (fun _ h9 => h9) rfl hnm rfl (by decide +kernel) rfl rfl (Nat.le_of_ble_eq_true rfl) dX6_init_10 (fun H locs hP hD hS => ?_)
  have hP : va_P (dC, dI) vwCl [(oM, .inr (6, [.int 0, .ref q_1, .null, .int 0, .null, .int 0, .int 0, .int 0, .int 0, .int 0, .null, .int 0, .int 0, .long 0])), (q_1, .inl (cI, 389, .inl (fun _ => 0)))] H := hP
  have hD : va_D A [(oM, .inr (6, [.int 0, .ref q_1, .null, .int 0, .null, .int 0, .int 0, .int 0, .int 0, .int 0, .null, .int 0, .int 0, .long 0])), (q_1, .inl (cI, 389, .inl (fun _ => 0)))] := hD
  refine lv_aload_n hx hb dX6_init_13 rfl (lv_at hl 0 rfl) ?_
  refine lv_sipush (v := 2334) hx hb dX6_init_14 (by decide) ?_
  refine va_newa (atype := .int) (ty := .int) (N' := 2334) (a0 := (2334, .inl (fun _ => 0))) hx hb (hts (.arrayClass .int) (by decide +kernel)) rfl hK.1 hP hD hS hA (fun _ => rfl) (by decide) (by decide) (Nat.le_of_ble_eq_true rfl) (Nat.le_of_ble_eq_true rfl) (Nat.le_of_ble_eq_true rfl) dX6_init_17 (fun q_3 cA H hK9 hP hD hS => ?_)
  have e_4 := kq_cA hK9
  subst e_4
  have hP : va_P (dC, dI) vwCl [(oM, .inr (6, [.int 0, .ref q_1, .null, .int 0, .null, .int 0, .int 0, .int 0, .int 0, .int 0, .null, .int 0, .int 0, .long 0])), (q_1, .inl (cI, 389, .inl (fun _ => 0))), (q_3, .inl (cI, 2334, .inl (fun _ => 0)))] H := hP
  have hD : va_D A [(oM, .inr (6, [.int 0, .ref q_1, .null, .int 0, .null, .int 0, .int 0, .int 0, .int 0, .int 0, .null, .int 0, .int 0, .long 0])), (q_1, .inl (cI, 389, .inl (fun _ => 0))), (q_3, .inl (cI, 2334, .inl (fun _ => 0)))] := hD
  refine va_putF (D := (dC, dI)) (ci := 6) (v := .ref q_3) (ty := .array .int) (C := RX6) (T := TX6) (N := 14) hx hb hts (by decide +kernel) tyX6 tyX6_ok nmX6 hown hK.1 hP hD hS 0 rfl rfl 2 (by decide) (hts (.fieldLink RX6 13 "NoteWatermarksModel" "saved" "[I") (by decide +kernel)) (fun _ h9 => h9) rfl hnm rfl (by decide +kernel) rfl rfl (Nat.le_of_ble_eq_true rfl) dX6_init_19 (fun H locs hP hD hS => ?_)
  have hP : va_P (dC, dI) vwCl [(oM, .inr (6, [.int 0, .ref q_1, .ref q_3, .int 0, .null, .int 0, .int 0, .int 0, .int 0, .int 0, .null, .int 0, .int 0, .long 0])), (q_1, .inl (cI, 389, .inl (fun _ => 0))), (q_3, .inl (cI, 2334, .inl (fun _ => 0)))] H := hP
  have hD : va_D A [(oM, .inr (6, [.int 0, .ref q_1, .ref q_3, .int 0, .null, .int 0, .int 0, .int 0, .int 0, .int 0, .null, .int 0, .int 0, .long 0])), (q_1, .inl (cI, 389, .inl (fun _ => 0))), (q_3, .inl (cI, 2334, .inl (fun _ => 0)))] := hD
  refine lv_aload_n hx hb dX6_init_22 rfl (lv_at hl 0 rfl) ?_
  refine lv_bipush (v := 60) hx hb dX6_init_23 (by decide) ?_
  refine va_newa (atype := .int) (ty := .int) (N' := 60) (a0 := (60, .inl (fun _ => 0))) hx hb (hts (.arrayClass .int) (by decide +kernel)) rfl hK.1 hP hD hS hA (fun _ => rfl) (by decide) (by decide) (Nat.le_of_ble_eq_true rfl) (Nat.le_of_ble_eq_true rfl) (Nat.le_of_ble_eq_true rfl) dX6_init_25 (fun q_5 cA H hK9 hP hD hS => ?_)
  have e_6 := kq_cA hK9
  subst e_6
  have hP : va_P (dC, dI) vwCl [(oM, .inr (6, [.int 0, .ref q_1, .ref q_3, .int 0, .null, .int 0, .int 0, .int 0, .int 0, .int 0, .null, .int 0, .int 0, .long 0])), (q_1, .inl (cI, 389, .inl (fun _ => 0))), (q_3, .inl (cI, 2334, .inl (fun _ => 0))), (q_5, .inl (cI, 60, .inl (fun _ => 0)))] H := hP
  have hD : va_D A [(oM, .inr (6, [.int 0, .ref q_1, .ref q_3, .int 0, .null, .int 0, .int 0, .int 0, .int 0, .int 0, .null, .int 0, .int 0, .long 0])), (q_1, .inl (cI, 389, .inl (fun _ => 0))), (q_3, .inl (cI, 2334, .inl (fun _ => 0))), (q_5, .inl (cI, 60, .inl (fun _ => 0)))] := hD
  refine va_putF (D := (dC, dI)) (ci := 6) (v := .ref q_5) (ty := .array .int) (C := RX6) (T := TX6) (N := 14) hx hb hts (by decide +kernel) tyX6 tyX6_ok nmX6 hown hK.1 hP hD hS 0 rfl rfl 4 (by decide) (hts (.fieldLink RX6 16 "NoteWatermarksModel" "buffer" "[I") (by decide +kernel)) (fun _ h9 => h9) rfl hnm rfl (by decide +kernel) rfl rfl (Nat.le_of_ble_eq_true rfl) dX6_init_27 (fun H locs hP hD hS => ?_)
  have hP : va_P (dC, dI) vwCl [(oM, .inr (6, [.int 0, .ref q_1, .ref q_3, .int 0, .ref q_5, .int 0, .int 0, .int 0, .int 0, .int 0, .null, .int 0, .int 0, .long 0])), (q_1, .inl (cI, 389, .inl (fun _ => 0))), (q_3, .inl (cI, 2334, .inl (fun _ => 0))), (q_5, .inl (cI, 60, .inl (fun _ => 0)))] H := hP
  have hD : va_D A [(oM, .inr (6, [.int 0, .ref q_1, .ref q_3, .int 0, .ref q_5, .int 0, .int 0, .int 0, .int 0, .int 0, .null, .int 0, .int 0, .long 0])), (q_1, .inl (cI, 389, .inl (fun _ => 0))), (q_3, .inl (cI, 2334, .inl (fun _ => 0))), (q_5, .inl (cI, 60, .inl (fun _ => 0)))] := hD
  refine lv_aload_n hx hb dX6_init_30 rfl (lv_at hl 0 rfl) ?_
  refine lv_bipush (v := 72) hx hb dX6_init_31 (by decide) ?_
  refine va_newa (atype := .int) (ty := .int) (N' := 72) (a0 := (72, .inl (fun _ => 0))) hx hb (hts (.arrayClass .int) (by decide +kernel)) rfl hK.1 hP hD hS hA (fun _ => rfl) (by decide) (by decide) (Nat.le_of_ble_eq_true rfl) (Nat.le_of_ble_eq_true rfl) (Nat.le_of_ble_eq_true rfl) dX6_init_33 (fun q_7 cA H hK9 hP hD hS => ?_)
  have e_8 := kq_cA hK9
  subst e_8
  have hP : va_P (dC, dI) vwCl [(oM, .inr (6, [.int 0, .ref q_1, .ref q_3, .int 0, .ref q_5, .int 0, .int 0, .int 0, .int 0, .int 0, .null, .int 0, .int 0, .long 0])), (q_1, .inl (cI, 389, .inl (fun _ => 0))), (q_3, .inl (cI, 2334, .inl (fun _ => 0))), (q_5, .inl (cI, 60, .inl (fun _ => 0))), (q_7, .inl (cI, 72, .inl (fun _ => 0)))] H := hP
  have hD : va_D A [(oM, .inr (6, [.int 0, .ref q_1, .ref q_3, .int 0, .ref q_5, .int 0, .int 0, .int 0, .int 0, .int 0, .null, .int 0, .int 0, .long 0])), (q_1, .inl (cI, 389, .inl (fun _ => 0))), (q_3, .inl (cI, 2334, .inl (fun _ => 0))), (q_5, .inl (cI, 60, .inl (fun _ => 0))), (q_7, .inl (cI, 72, .inl (fun _ => 0)))] := hD
  refine va_putF (D := (dC, dI)) (ci := 6) (v := .ref q_7) (ty := .array .int) (C := RX6) (T := TX6) (N := 14) hx hb hts (by decide +kernel) tyX6 tyX6_ok nmX6 hown hK.1 hP hD hS 0 rfl rfl 10 (by decide) (hts (.fieldLink RX6 19 "NoteWatermarksModel" "parts" "[I") (by decide +kernel)) (fun _ h9 => h9) rfl hnm rfl (by decide +kernel) rfl rfl (Nat.le_of_ble_eq_true rfl) dX6_init_35 (fun H locs hP hD hS => ?_)
  have hP : va_P (dC, dI) vwCl [(oM, .inr (6, [.int 0, .ref q_1, .ref q_3, .int 0, .ref q_5, .int 0, .int 0, .int 0, .int 0, .int 0, .ref q_7, .int 0, .int 0, .long 0])), (q_1, .inl (cI, 389, .inl (fun _ => 0))), (q_3, .inl (cI, 2334, .inl (fun _ => 0))), (q_5, .inl (cI, 60, .inl (fun _ => 0))), (q_7, .inl (cI, 72, .inl (fun _ => 0)))] H := hP
  have hD : va_D A [(oM, .inr (6, [.int 0, .ref q_1, .ref q_3, .int 0, .ref q_5, .int 0, .int 0, .int 0, .int 0, .int 0, .ref q_7, .int 0, .int 0, .long 0])), (q_1, .inl (cI, 389, .inl (fun _ => 0))), (q_3, .inl (cI, 2334, .inl (fun _ => 0))), (q_5, .inl (cI, 60, .inl (fun _ => 0))), (q_7, .inl (cI, 72, .inl (fun _ => 0)))] := hD
  refine lv_aload_n hx hb dX6_init_38 rfl (lv_at hl 0 rfl) ?_
  refine va_get (D := (dC, dI)) (ci := 6) (v := .ref q_1) (C := RX6) (T := TX6) (N := 14) hx hb hts (by decide +kernel) hown hK.1 hP 0 rfl rfl 1 (by decide) (hts (.fieldLink RX6 7 "NoteWatermarksModel" "z" "[I") (by decide +kernel)) (fun _ h9 => h9) rfl dX6_init_39 ?_
  refine lv_iconst (v := 1) hx hb dX6_init_42 (by decide) ?_
  refine lv_bipush (v := 12) hx hb dX6_init_43 (by decide) ?_
  refine va_iast hx hb hK.1 hP hD hS 1 0 rfl rfl (vp_in_nI (show 1 < 389 from by omega) (by omega)) dX6_init_45 (fun H locs hP hD hS => ?_)
  rw [show Int32.toNatClampNeg 1 = 1 by decide] at hP hD
  have hP : va_P (dC, dI) vwCl [(oM, .inr (6, [.int 0, .ref q_1, .ref q_3, .int 0, .ref q_5, .int 0, .int 0, .int 0, .int 0, .int 0, .ref q_7, .int 0, .int 0, .long 0])), (q_1, .inl (cI, 389, .inl (upd (fun _ => 0) 1 12))), (q_3, .inl (cI, 2334, .inl (fun _ => 0))), (q_5, .inl (cI, 60, .inl (fun _ => 0))), (q_7, .inl (cI, 72, .inl (fun _ => 0)))] H := hP
  have hD : va_D A [(oM, .inr (6, [.int 0, .ref q_1, .ref q_3, .int 0, .ref q_5, .int 0, .int 0, .int 0, .int 0, .int 0, .ref q_7, .int 0, .int 0, .long 0])), (q_1, .inl (cI, 389, .inl (upd (fun _ => 0) 1 12))), (q_3, .inl (cI, 2334, .inl (fun _ => 0))), (q_5, .inl (cI, 60, .inl (fun _ => 0))), (q_7, .inl (cI, 72, .inl (fun _ => 0)))] := hD
  refine lv_aload_n hx hb dX6_init_46 rfl (lv_at hl 0 rfl) ?_
  refine va_get (D := (dC, dI)) (ci := 6) (v := .ref q_1) (C := RX6) (T := TX6) (N := 14) hx hb hts (by decide +kernel) hown hK.1 hP 0 rfl rfl 1 (by decide) (hts (.fieldLink RX6 7 "NoteWatermarksModel" "z" "[I") (by decide +kernel)) (fun _ h9 => h9) rfl dX6_init_47 ?_
  refine lv_iconst (v := 2) hx hb dX6_init_50 (by decide) ?_
  refine lv_iconst (v := 2) hx hb dX6_init_51 (by decide) ?_
  refine va_iast hx hb hK.1 hP hD hS 1 0 rfl rfl (vp_in_nI (show 2 < 389 from by omega) (by omega)) dX6_init_52 (fun H locs hP hD hS => ?_)
  rw [show Int32.toNatClampNeg 2 = 2 by decide] at hP hD
  have hP : va_P (dC, dI) vwCl [(oM, .inr (6, [.int 0, .ref q_1, .ref q_3, .int 0, .ref q_5, .int 0, .int 0, .int 0, .int 0, .int 0, .ref q_7, .int 0, .int 0, .long 0])), (q_1, .inl (cI, 389, .inl (upd (upd (fun _ => 0) 1 12) 2 2))), (q_3, .inl (cI, 2334, .inl (fun _ => 0))), (q_5, .inl (cI, 60, .inl (fun _ => 0))), (q_7, .inl (cI, 72, .inl (fun _ => 0)))] H := hP
  have hD : va_D A [(oM, .inr (6, [.int 0, .ref q_1, .ref q_3, .int 0, .ref q_5, .int 0, .int 0, .int 0, .int 0, .int 0, .ref q_7, .int 0, .int 0, .long 0])), (q_1, .inl (cI, 389, .inl (upd (upd (fun _ => 0) 1 12) 2 2))), (q_3, .inl (cI, 2334, .inl (fun _ => 0))), (q_5, .inl (cI, 60, .inl (fun _ => 0))), (q_7, .inl (cI, 72, .inl (fun _ => 0)))] := hD
  refine lv_iconst (v := 0) hx hb dX6_init_53 (by decide) ?_
  refine lv_istore_n (lv' := [(1, .int 0), (0, .ref oM)]) hx hb dX6_init_54 rfl hl (by decide) rfl (fun ls hl => ?_)
  refine kq_loopM2 (A1 := Nat) (A2 := Nat → Int32) (fun (k : Nat) (g : Nat → Int32) => 3 - k) (fun (k : Nat) (g : Nat → Int32) => (k ≤ 3) ∧ (∀ j, g j = if 3 ≤ j ∧ j < 3 + k then 12 else if j = 1 then 12 else if j = 2 then 2 else 0)) (fun (k : Nat) (g : Nat → Int32) => [(0, .ref oM), (1, .int (nI k))]) (fun (k : Nat) (g : Nat → Int32) => [(oM, .inr (6, [.int 0, .ref q_1, .ref q_3, .int 0, .ref q_5, .int 0, .int 0, .int 0, .int 0, .int 0, .ref q_7, .int 0, .int 0, .long 0])), (q_1, .inl (cI, 389, .inl g)), (q_3, .inl (cI, 2334, .inl (fun _ => 0))), (q_5, .inl (cI, 60, .inl (fun _ => 0))), (q_7, .inl (cI, 72, .inl (fun _ => 0)))]) (nL := 2) hK ?_ 0 (upd (upd (fun _ => 0) 1 12) 2 2) ⟨(by omega), (by intro j; rw [if_neg (by omega)]; by_cases q : j = 2; (rw [q, pk_us]; rfl); rw [pk_un q]; by_cases q2 : j = 1; (rw [q2, pk_us]; rfl); rw [pk_un q2, if_neg q2, if_neg q])⟩ hP hD hS _ (lv_sub hl [1, 0] rfl)
  intro k g hi_10 ih_9 H locs hP hD hS ls hl
  obtain ⟨ik, ig⟩ := hi_10
  have hl : lv_has ls 2 [(0, .ref oM), (1, .int (nI k))] := hl
  have hP : va_P (dC, dI) vwCl [(oM, .inr (6, [.int 0, .ref q_1, .ref q_3, .int 0, .ref q_5, .int 0, .int 0, .int 0, .int 0, .int 0, .ref q_7, .int 0, .int 0, .long 0])), (q_1, .inl (cI, 389, .inl g)), (q_3, .inl (cI, 2334, .inl (fun _ => 0))), (q_5, .inl (cI, 60, .inl (fun _ => 0))), (q_7, .inl (cI, 72, .inl (fun _ => 0)))] H := hP
  have hD : va_D A [(oM, .inr (6, [.int 0, .ref q_1, .ref q_3, .int 0, .ref q_5, .int 0, .int 0, .int 0, .int 0, .int 0, .ref q_7, .int 0, .int 0, .long 0])), (q_1, .inl (cI, 389, .inl g)), (q_3, .inl (cI, 2334, .inl (fun _ => 0))), (q_5, .inl (cI, 60, .inl (fun _ => 0))), (q_7, .inl (cI, 72, .inl (fun _ => 0)))] := hD
  refine lv_iload_n hx hb dX6_init_55 rfl (lv_at hl 1 rfl) ?_
  refine lv_iconst (v := 3) hx hb dX6_init_56 (by decide) ?_
  refine lv_icmp_ge (tgt := 76) hx hb dX6_init_57 (by decide) (fun c_11 => ?_) (fun c_11 => ?_)
  · skip
    have c_11 := kq_leN (a := 3) (b := k) c_11 (by omega) (by omega)
    have hg : g = n_z0 := by funext j; rw [ig j, n_z0, show k = 3 by omega]
    rw [hg] at hP hD
    exact kq_retMv (q_1, q_3, q_5, q_7) hx hb hr hlocks hP hD hS dX6_init_76 (by trivial)
  · skip
    have c_11 := kq_nleN (a := 3) (b := k) c_11 (by omega) (by omega)
    refine lv_aload_n hx hb dX6_init_60 rfl (lv_at hl 0 rfl) ?_
    refine va_get (D := (dC, dI)) (ci := 6) (v := .ref q_1) (C := RX6) (T := TX6) (N := 14) hx hb hts (by decide +kernel) hown hK.1 hP 0 rfl rfl 1 (by decide) (hts (.fieldLink RX6 7 "NoteWatermarksModel" "z" "[I") (by decide +kernel)) (fun _ h9 => h9) rfl dX6_init_61 ?_
    refine lv_iconst (v := 3) hx hb dX6_init_64 (by decide) ?_
    refine lv_iload_n hx hb dX6_init_65 rfl (lv_at hl 1 rfl) ?_
    refine lv_iadd hx hb dX6_init_66 ?_
    refine kq_top (z := nI (3 + k)) (nI_add 3 k) ?_
    refine lv_bipush (v := 12) hx hb dX6_init_67 (by decide) ?_
    refine va_iast hx hb hK.1 hP hD hS 1 0 rfl rfl (vp_in_nI (show 3 + k < 389 from by omega) (by omega)) dX6_init_69 (fun H locs hP hD hS => ?_)
    rw [nI_clamp (Nat.lt_trans (show 3 + k < 389 from by omega) (by omega))] at hP hD
    have hP : va_P (dC, dI) vwCl [(oM, .inr (6, [.int 0, .ref q_1, .ref q_3, .int 0, .ref q_5, .int 0, .int 0, .int 0, .int 0, .int 0, .ref q_7, .int 0, .int 0, .long 0])), (q_1, .inl (cI, 389, .inl (upd g (3 + k) 12))), (q_3, .inl (cI, 2334, .inl (fun _ => 0))), (q_5, .inl (cI, 60, .inl (fun _ => 0))), (q_7, .inl (cI, 72, .inl (fun _ => 0)))] H := hP
    have hD : va_D A [(oM, .inr (6, [.int 0, .ref q_1, .ref q_3, .int 0, .ref q_5, .int 0, .int 0, .int 0, .int 0, .int 0, .ref q_7, .int 0, .int 0, .long 0])), (q_1, .inl (cI, 389, .inl (upd g (3 + k) 12))), (q_3, .inl (cI, 2334, .inl (fun _ => 0))), (q_5, .inl (cI, 60, .inl (fun _ => 0))), (q_7, .inl (cI, 72, .inl (fun _ => 0)))] := hD
    refine lv_iinc (v := nI (k + 1)) (lv' := [(1, .int (nI (k + 1))), (0, .ref oM)]) hx hb dX6_init_70 hl (k := 1) rfl (nI_1 k) (by decide) rfl (fun ls hl => ?_)
    refine lv_goto (tgt := 55) hx hb dX6_init_73 (by decide) ?_
    exact ih_9 (k + 1) (upd g (3 + k) 12) ⟨(by omega), (by intro j; by_cases q : j = 3 + k; (subst q; rw [pk_us, if_pos (by omega)]); (rw [pk_un q, ig j]; by_cases q2 : 3 ≤ j ∧ j < 3 + k; rw [if_pos q2, if_pos (by omega)]; rw [if_neg q2, if_neg (show ¬ (3 ≤ j ∧ j < 3 + (k + 1)) by omega)]))⟩ (by show 3 - (k + 1) < 3 - k; omega) _ _ hP hD hS _ (lv_sub hl [1, 0] rfl)
set_option maxHeartbeats 4000000 in
set_option maxRecDepth 100000 in
theorem c_X5_init (l : Launch) (dC : Nat → ClassId) (dI : Nat → Nat → Nat) (cI : ClassId) (sz : Nat) (oX : Nat)  : Met l yX5_init wsX5_init ({ frames := 2, cells := 21, slots := 3203, locals := 42 }) (kq_M dC dI cI [.ref oX] sz [(oX, .inr (5, [.null, .null, .null, .null, .null, .null]))]) (va_Qv (fun (u : Nat × Nat × Nat × Nat × Nat × Nat × Nat × Nat × Nat × Nat × Nat × Nat × Nat × Nat × Nat) => True) (kq_B dC dI (va_A [(oX, .inr (5, [.null, .null, .null, .null, .null, .null]))] sz) (fun u : Nat × Nat × Nat × Nat × Nat × Nat × Nat × Nat × Nat × Nat × Nat × Nat × Nat × Nat × Nat => [(oX, .inr (5, [.ref u.1, .ref u.2.1, .ref u.2.2.1, .ref u.2.2.2.1, .ref u.2.2.2.2.1, .ref u.2.2.2.2.2.1])), (u.1, .inr (3, [.ref u.2.2.2.2.2.2.1, .ref u.2.2.2.2.2.2.2.1, .int (nI 0)])), (u.2.2.2.2.2.2.1, .inl (cI, 385, .inl n_v0)), (u.2.2.2.2.2.2.2.1, .inl (cI, 2310, .inl (fun _ => 0))), (u.2.1, .inr (2, [.ref u.1])), (u.2.2.1, .inr (1, [.ref u.1, .ref u.2.2.2.2.2.2.2.2.1, .ref u.2.2.2.2.2.2.2.2.2.1, .ref u.2.2.2.2.2.2.2.2.2.2.1])), (u.2.2.2.2.2.2.2.2.1, .inl (cI, 72, .inl (fun _ => 0))), (u.2.2.2.2.2.2.2.2.2.1, .inl (cI, 72, .inl (fun _ => 0))), (u.2.2.2.2.2.2.2.2.2.2.1, .inl (cI, 72, .inl (fun _ => 0))), (u.2.2.2.1, .inr (1, [.ref u.1, .ref u.2.2.2.2.2.2.2.2.2.2.2.1, .ref u.2.2.2.2.2.2.2.2.2.2.2.2.1, .ref u.2.2.2.2.2.2.2.2.2.2.2.2.2.1])), (u.2.2.2.2.2.2.2.2.2.2.2.1, .inl (cI, 72, .inl (fun _ => 0))), (u.2.2.2.2.2.2.2.2.2.2.2.2.1, .inl (cI, 72, .inl (fun _ => 0))), (u.2.2.2.2.2.2.2.2.2.2.2.2.2.1, .inl (cI, 72, .inl (fun _ => 0))), (u.2.2.2.2.1, .inr (0, [.ref u.1, .ref u.2.2.1])), (u.2.2.2.2.2.1, .inr (4, [.ref u.2.2.2.2.2.2.2.2.2.2.2.2.2.2, .int (nI 0)])), (u.2.2.2.2.2.2.2.2.2.2.2.2.2.2, .inl (cI, 60, .inl (fun _ => 0)))])) (va_A [(oX, .inr (5, [.null, .null, .null, .null, .null, .null]))] sz)) 21 3203 (va_A [(oX, .inr (5, [.null, .null, .null, .null, .null, .null]))] sz) := by
  refine kq_startM (cc := cX5_init) (maxL := 1) (ret := none) (by decide) rfl (Nat.le_of_ble_eq_true rfl) ?_
  intro p e s m below meth c hx hb hr hml hown hlocks hts hsz hA hP hD hS hK hnm ls hl
  subst hsz
  generalize hAe : va_A [(oX, .inr (5, [.null, .null, .null, .null, .null, .null]))] s.heap.size = A at hA hD hS ⊢
  have hown : s.vm.findClass RX5 = some m.cls := hown
  have hl : lv_has ls 1 [(0, .ref oX)] := hl
  refine lv_aload_n hx hb dX5_init_0 rfl (lv_at hl 0 rfl) ?_
  refine W.objInit hx hb hown (hts (.methodLink RX5 3 objectInit) (by decide +kernel)) (hts (.instanceMethod objectInit) (by decide +kernel)) (hts _ (List.mem_cons_of_mem _ (List.mem_append_left _ (List.mem_of_getElem? (i := 2) rfl)))) rfl (by rw [hml]; exact hl.1) rfl dX5_init_1 (Nat.le_of_ble_eq_true rfl) (Nat.le_of_ble_eq_true rfl) ?_
  refine W.eq (g2 := F0 m 4 ls []) rfl ?_
  refine lv_aload_n hx hb dX5_init_4 rfl (lv_at hl 0 rfl) ?_
  refine va_new (ci := 3) (fs := [.null, .null, .int 0]) (C := RX3) (T := TX3) (N := 3) hx hb hts (by decide +kernel) tyX3 tyX3_ok hown (hts (.classLink RX5 9 RX3) (by decide +kernel)) (hts (.instantiable RX3 3) (by decide +kernel)) (hts (.initialized RX3) (by decide +kernel)) hK.1 hP hD hS hA rfl (fun j hj => by rcases (show j = 0 ∨ j = 1 ∨ j = 2 by omega) with rfl | rfl | rfl <;> rfl) (Nat.le_of_ble_eq_true rfl) (Nat.le_of_ble_eq_true rfl) dX5_init_5 (fun q_1 H hP hD hS => ?_)
  have hP : va_P (dC, dI) vwCl [(oX, .inr (5, [.null, .null, .null, .null, .null, .null])), (q_1, .inr (3, [.null, .null, .int 0]))] H := hP
  have hD : va_D A [(oX, .inr (5, [.null, .null, .null, .null, .null, .null])), (q_1, .inr (3, [.null, .null, .int 0]))] := hD
  refine lv_dup hx hb dX5_init_8 rfl ?_
  refine kq_callMv (wr := [(oX, .inr (5, [.null, .null, .null, .null, .null, .null]))]) (va_runI (As := []) (rest := [.ref q_1, .ref oX]) ⟨hx, hb, hml, hown, hts⟩ (c_X3_init l dC dI cI H.size q_1 ) (cwI 0 hts gX5_init_X3_init rfl rfl rfl (hts (.initialized RX3) (by decide +kernel)) (hts (.methodLink RX5 11 yX3_init) (by decide +kernel)) (hts (.instanceMethod yX3_init) (by decide +kernel)) rfl (by decide +kernel) ⟨Nat.le_of_ble_eq_true rfl, Nat.le_of_ble_eq_true rfl⟩) (kq_preS (hP.sub [1] rfl) (hD.sub [1] (by decide) rfl) hK) rfl rfl hl.1 rfl (lv_room (Nat.le_of_ble_eq_true rfl)) dX5_init_9 ⟨Nat.le_of_ble_eq_true rfl, Nat.le_of_ble_eq_true rfl⟩) hP hD hS hA [1] [0] rfl rfl (by decide) (by decide) (fun u_3 H locs hw_4 hP hD hS => ?_)
  obtain ⟨rv_5, rs_6⟩ := u_3
  have hP : va_P (dC, dI) vwCl [(oX, .inr (5, [.null, .null, .null, .null, .null, .null])), (q_1, .inr (3, [.ref rv_5, .ref rs_6, .int (nI 0)])), (rv_5, .inl (cI, 385, .inl n_v0)), (rs_6, .inl (cI, 2310, .inl (fun _ => 0)))] H := hP
  have hD : va_D A [(oX, .inr (5, [.null, .null, .null, .null, .null, .null])), (q_1, .inr (3, [.ref rv_5, .ref rs_6, .int (nI 0)])), (rv_5, .inl (cI, 385, .inl n_v0)), (rs_6, .inl (cI, 2310, .inl (fun _ => 0)))] := hD
  try dsimp only at hw_4
  refine va_putF (D := (dC, dI)) (ci := 5) (v := .ref q_1) (ty := .object "NoteWatermarks$State") (C := RX5) (T := TX5) (N := 6) hx hb hts (by decide +kernel) tyX5 tyX5_ok nmX5 hown hK.1 hP hD hS 0 rfl rfl 0 (by decide) (hts (.fieldLink RX5 12 "NoteWatermarks" "state" "LNoteWatermarks$State;") (by decide +kernel)) (fun _ h9 => h9) rfl hnm rfl (by decide +kernel) rfl rfl (Nat.le_of_ble_eq_true rfl) dX5_init_12 (fun H locs hP hD hS => ?_)
  have hP : va_P (dC, dI) vwCl [(oX, .inr (5, [.ref q_1, .null, .null, .null, .null, .null])), (q_1, .inr (3, [.ref rv_5, .ref rs_6, .int (nI 0)])), (rv_5, .inl (cI, 385, .inl n_v0)), (rs_6, .inl (cI, 2310, .inl (fun _ => 0)))] H := hP
  have hD : va_D A [(oX, .inr (5, [.ref q_1, .null, .null, .null, .null, .null])), (q_1, .inr (3, [.ref rv_5, .ref rs_6, .int (nI 0)])), (rv_5, .inl (cI, 385, .inl n_v0)), (rs_6, .inl (cI, 2310, .inl (fun _ => 0)))] := hD
  refine lv_aload_n hx hb dX5_init_15 rfl (lv_at hl 0 rfl) ?_
  refine va_new (ci := 2) (fs := [.null]) (C := RX2) (T := TX2) (N := 1) hx hb hts (by decide +kernel) tyX2 tyX2_ok hown (hts (.classLink RX5 16 RX2) (by decide +kernel)) (hts (.instantiable RX2 1) (by decide +kernel)) (hts (.initialized RX2) (by decide +kernel)) hK.1 hP hD hS hA rfl (fun j hj => by rcases (show j = 0 by omega) with rfl <;> rfl) (Nat.le_of_ble_eq_true rfl) (Nat.le_of_ble_eq_true rfl) dX5_init_16 (fun q_7 H hP hD hS => ?_)
  have hP : va_P (dC, dI) vwCl [(oX, .inr (5, [.ref q_1, .null, .null, .null, .null, .null])), (q_1, .inr (3, [.ref rv_5, .ref rs_6, .int (nI 0)])), (rv_5, .inl (cI, 385, .inl n_v0)), (rs_6, .inl (cI, 2310, .inl (fun _ => 0))), (q_7, .inr (2, [.null]))] H := hP
  have hD : va_D A [(oX, .inr (5, [.ref q_1, .null, .null, .null, .null, .null])), (q_1, .inr (3, [.ref rv_5, .ref rs_6, .int (nI 0)])), (rv_5, .inl (cI, 385, .inl n_v0)), (rs_6, .inl (cI, 2310, .inl (fun _ => 0))), (q_7, .inr (2, [.null]))] := hD
  refine lv_dup hx hb dX5_init_19 rfl ?_
  refine lv_aload_n hx hb dX5_init_20 rfl (lv_at hl 0 rfl) ?_
  refine va_get (D := (dC, dI)) (ci := 5) (v := .ref q_1) (C := RX5) (T := TX5) (N := 6) hx hb hts (by decide +kernel) hown hK.1 hP 0 rfl rfl 0 (by decide) (hts (.fieldLink RX5 12 "NoteWatermarks" "state" "LNoteWatermarks$State;") (by decide +kernel)) (fun _ h9 => h9) rfl dX5_init_21 ?_
  refine kq_callMv (wr := [(oX, .inr (5, [.ref q_1, .null, .null, .null, .null, .null])), (q_1, .inr (3, [.ref rv_5, .ref rs_6, .int (nI 0)])), (rv_5, .inl (cI, 385, .inl n_v0)), (rs_6, .inl (cI, 2310, .inl (fun _ => 0)))]) (va_runI (As := [.ref q_1]) (rest := [.ref q_7, .ref oX]) ⟨hx, hb, hml, hown, hts⟩ (c_X2_init l dC dI cI H.size q_7 q_1 ) (cwI 1 hts gX5_init_X2_init rfl rfl rfl (hts (.initialized RX2) (by decide +kernel)) (hts (.methodLink RX5 18 yX2_init) (by decide +kernel)) (hts (.instanceMethod yX2_init) (by decide +kernel)) rfl (by decide +kernel) ⟨Nat.le_of_ble_eq_true rfl, Nat.le_of_ble_eq_true rfl⟩) (kq_preS (hP.sub [4] rfl) (hD.sub [4] (by decide) rfl) hK) rfl rfl hl.1 rfl (lv_room (Nat.le_of_ble_eq_true rfl)) dX5_init_24 ⟨Nat.le_of_ble_eq_true rfl, Nat.le_of_ble_eq_true rfl⟩) hP hD hS hA [4] [0, 1, 2, 3] rfl rfl (by decide) (by decide) (fun u_9 H locs hw_10 hP hD hS => ?_)
  have hP : va_P (dC, dI) vwCl [(oX, .inr (5, [.ref q_1, .null, .null, .null, .null, .null])), (q_1, .inr (3, [.ref rv_5, .ref rs_6, .int (nI 0)])), (rv_5, .inl (cI, 385, .inl n_v0)), (rs_6, .inl (cI, 2310, .inl (fun _ => 0))), (q_7, .inr (2, [.ref q_1]))] H := hP
  have hD : va_D A [(oX, .inr (5, [.ref q_1, .null, .null, .null, .null, .null])), (q_1, .inr (3, [.ref rv_5, .ref rs_6, .int (nI 0)])), (rv_5, .inl (cI, 385, .inl n_v0)), (rs_6, .inl (cI, 2310, .inl (fun _ => 0))), (q_7, .inr (2, [.ref q_1]))] := hD
  refine va_putF (D := (dC, dI)) (ci := 5) (v := .ref q_7) (ty := .object "NoteWatermarks$Rolls") (C := RX5) (T := TX5) (N := 6) hx hb hts (by decide +kernel) tyX5 tyX5_ok nmX5 hown hK.1 hP hD hS 0 rfl rfl 1 (by decide) (hts (.fieldLink RX5 21 "NoteWatermarks" "rolls" "LNoteWatermarks$Rolls;") (by decide +kernel)) (fun _ h9 => h9) rfl hnm rfl (by decide +kernel) rfl rfl (Nat.le_of_ble_eq_true rfl) dX5_init_27 (fun H locs hP hD hS => ?_)
  have hP : va_P (dC, dI) vwCl [(oX, .inr (5, [.ref q_1, .ref q_7, .null, .null, .null, .null])), (q_1, .inr (3, [.ref rv_5, .ref rs_6, .int (nI 0)])), (rv_5, .inl (cI, 385, .inl n_v0)), (rs_6, .inl (cI, 2310, .inl (fun _ => 0))), (q_7, .inr (2, [.ref q_1]))] H := hP
  have hD : va_D A [(oX, .inr (5, [.ref q_1, .ref q_7, .null, .null, .null, .null])), (q_1, .inr (3, [.ref rv_5, .ref rs_6, .int (nI 0)])), (rv_5, .inl (cI, 385, .inl n_v0)), (rs_6, .inl (cI, 2310, .inl (fun _ => 0))), (q_7, .inr (2, [.ref q_1]))] := hD
  refine lv_aload_n hx hb dX5_init_30 rfl (lv_at hl 0 rfl) ?_
  refine va_new (ci := 1) (fs := [.null, .null, .null, .null]) (C := RX1) (T := TX1) (N := 4) hx hb hts (by decide +kernel) tyX1 tyX1_ok hown (hts (.classLink RX5 25 RX1) (by decide +kernel)) (hts (.instantiable RX1 4) (by decide +kernel)) (hts (.initialized RX1) (by decide +kernel)) hK.1 hP hD hS hA rfl (fun j hj => by rcases (show j = 0 ∨ j = 1 ∨ j = 2 ∨ j = 3 by omega) with rfl | rfl | rfl | rfl <;> rfl) (Nat.le_of_ble_eq_true rfl) (Nat.le_of_ble_eq_true rfl) dX5_init_31 (fun q_11 H hP hD hS => ?_)
  have hP : va_P (dC, dI) vwCl [(oX, .inr (5, [.ref q_1, .ref q_7, .null, .null, .null, .null])), (q_1, .inr (3, [.ref rv_5, .ref rs_6, .int (nI 0)])), (rv_5, .inl (cI, 385, .inl n_v0)), (rs_6, .inl (cI, 2310, .inl (fun _ => 0))), (q_7, .inr (2, [.ref q_1])), (q_11, .inr (1, [.null, .null, .null, .null]))] H := hP
  have hD : va_D A [(oX, .inr (5, [.ref q_1, .ref q_7, .null, .null, .null, .null])), (q_1, .inr (3, [.ref rv_5, .ref rs_6, .int (nI 0)])), (rv_5, .inl (cI, 385, .inl n_v0)), (rs_6, .inl (cI, 2310, .inl (fun _ => 0))), (q_7, .inr (2, [.ref q_1])), (q_11, .inr (1, [.null, .null, .null, .null]))] := hD
  refine lv_dup hx hb dX5_init_34 rfl ?_
  refine lv_aload_n hx hb dX5_init_35 rfl (lv_at hl 0 rfl) ?_
  refine va_get (D := (dC, dI)) (ci := 5) (v := .ref q_1) (C := RX5) (T := TX5) (N := 6) hx hb hts (by decide +kernel) hown hK.1 hP 0 rfl rfl 0 (by decide) (hts (.fieldLink RX5 12 "NoteWatermarks" "state" "LNoteWatermarks$State;") (by decide +kernel)) (fun _ h9 => h9) rfl dX5_init_36 ?_
  refine kq_callMv (wr := [(oX, .inr (5, [.ref q_1, .ref q_7, .null, .null, .null, .null])), (q_1, .inr (3, [.ref rv_5, .ref rs_6, .int (nI 0)])), (rv_5, .inl (cI, 385, .inl n_v0)), (rs_6, .inl (cI, 2310, .inl (fun _ => 0))), (q_7, .inr (2, [.ref q_1]))]) (va_runI (As := [.ref q_1]) (rest := [.ref q_11, .ref oX]) ⟨hx, hb, hml, hown, hts⟩ (c_X1_init l dC dI cI H.size q_11 q_1 ) (cwI 1 hts gX5_init_X1_init rfl rfl rfl (hts (.initialized RX1) (by decide +kernel)) (hts (.methodLink RX5 27 yX1_init) (by decide +kernel)) (hts (.instanceMethod yX1_init) (by decide +kernel)) rfl (by decide +kernel) ⟨Nat.le_of_ble_eq_true rfl, Nat.le_of_ble_eq_true rfl⟩) (kq_preS (hP.sub [5] rfl) (hD.sub [5] (by decide) rfl) hK) rfl rfl hl.1 rfl (lv_room (Nat.le_of_ble_eq_true rfl)) dX5_init_39 ⟨Nat.le_of_ble_eq_true rfl, Nat.le_of_ble_eq_true rfl⟩) hP hD hS hA [5] [0, 1, 2, 3, 4] rfl rfl (by decide) (by decide) (fun u_13 H locs hw_14 hP hD hS => ?_)
  obtain ⟨rp_15, rt_16, rl_17⟩ := u_13
  have hP : va_P (dC, dI) vwCl [(oX, .inr (5, [.ref q_1, .ref q_7, .null, .null, .null, .null])), (q_1, .inr (3, [.ref rv_5, .ref rs_6, .int (nI 0)])), (rv_5, .inl (cI, 385, .inl n_v0)), (rs_6, .inl (cI, 2310, .inl (fun _ => 0))), (q_7, .inr (2, [.ref q_1])), (q_11, .inr (1, [.ref q_1, .ref rp_15, .ref rt_16, .ref rl_17])), (rp_15, .inl (cI, 72, .inl (fun _ => 0))), (rt_16, .inl (cI, 72, .inl (fun _ => 0))), (rl_17, .inl (cI, 72, .inl (fun _ => 0)))] H := hP
  have hD : va_D A [(oX, .inr (5, [.ref q_1, .ref q_7, .null, .null, .null, .null])), (q_1, .inr (3, [.ref rv_5, .ref rs_6, .int (nI 0)])), (rv_5, .inl (cI, 385, .inl n_v0)), (rs_6, .inl (cI, 2310, .inl (fun _ => 0))), (q_7, .inr (2, [.ref q_1])), (q_11, .inr (1, [.ref q_1, .ref rp_15, .ref rt_16, .ref rl_17])), (rp_15, .inl (cI, 72, .inl (fun _ => 0))), (rt_16, .inl (cI, 72, .inl (fun _ => 0))), (rl_17, .inl (cI, 72, .inl (fun _ => 0)))] := hD
  try dsimp only at hw_14
  refine va_putF (D := (dC, dI)) (ci := 5) (v := .ref q_11) (ty := .object "NoteWatermarks$Note") (C := RX5) (T := TX5) (N := 6) hx hb hts (by decide +kernel) tyX5 tyX5_ok nmX5 hown hK.1 hP hD hS 0 rfl rfl 2 (by decide) (hts (.fieldLink RX5 28 "NoteWatermarks" "view" "LNoteWatermarks$Note;") (by decide +kernel)) (fun _ h9 => h9) rfl hnm rfl (by decide +kernel) rfl rfl (Nat.le_of_ble_eq_true rfl) dX5_init_42 (fun H locs hP hD hS => ?_)
  have hP : va_P (dC, dI) vwCl [(oX, .inr (5, [.ref q_1, .ref q_7, .ref q_11, .null, .null, .null])), (q_1, .inr (3, [.ref rv_5, .ref rs_6, .int (nI 0)])), (rv_5, .inl (cI, 385, .inl n_v0)), (rs_6, .inl (cI, 2310, .inl (fun _ => 0))), (q_7, .inr (2, [.ref q_1])), (q_11, .inr (1, [.ref q_1, .ref rp_15, .ref rt_16, .ref rl_17])), (rp_15, .inl (cI, 72, .inl (fun _ => 0))), (rt_16, .inl (cI, 72, .inl (fun _ => 0))), (rl_17, .inl (cI, 72, .inl (fun _ => 0)))] H := hP
  have hD : va_D A [(oX, .inr (5, [.ref q_1, .ref q_7, .ref q_11, .null, .null, .null])), (q_1, .inr (3, [.ref rv_5, .ref rs_6, .int (nI 0)])), (rv_5, .inl (cI, 385, .inl n_v0)), (rs_6, .inl (cI, 2310, .inl (fun _ => 0))), (q_7, .inr (2, [.ref q_1])), (q_11, .inr (1, [.ref q_1, .ref rp_15, .ref rt_16, .ref rl_17])), (rp_15, .inl (cI, 72, .inl (fun _ => 0))), (rt_16, .inl (cI, 72, .inl (fun _ => 0))), (rl_17, .inl (cI, 72, .inl (fun _ => 0)))] := hD
  refine lv_aload_n hx hb dX5_init_45 rfl (lv_at hl 0 rfl) ?_
  refine va_new (ci := 1) (fs := [.null, .null, .null, .null]) (C := RX1) (T := TX1) (N := 4) hx hb hts (by decide +kernel) tyX1 tyX1_ok hown (hts (.classLink RX5 25 RX1) (by decide +kernel)) (hts (.instantiable RX1 4) (by decide +kernel)) (hts (.initialized RX1) (by decide +kernel)) hK.1 hP hD hS hA rfl (fun j hj => by rcases (show j = 0 ∨ j = 1 ∨ j = 2 ∨ j = 3 by omega) with rfl | rfl | rfl | rfl <;> rfl) (Nat.le_of_ble_eq_true rfl) (Nat.le_of_ble_eq_true rfl) dX5_init_46 (fun q_18 H hP hD hS => ?_)
  have hP : va_P (dC, dI) vwCl [(oX, .inr (5, [.ref q_1, .ref q_7, .ref q_11, .null, .null, .null])), (q_1, .inr (3, [.ref rv_5, .ref rs_6, .int (nI 0)])), (rv_5, .inl (cI, 385, .inl n_v0)), (rs_6, .inl (cI, 2310, .inl (fun _ => 0))), (q_7, .inr (2, [.ref q_1])), (q_11, .inr (1, [.ref q_1, .ref rp_15, .ref rt_16, .ref rl_17])), (rp_15, .inl (cI, 72, .inl (fun _ => 0))), (rt_16, .inl (cI, 72, .inl (fun _ => 0))), (rl_17, .inl (cI, 72, .inl (fun _ => 0))), (q_18, .inr (1, [.null, .null, .null, .null]))] H := hP
  have hD : va_D A [(oX, .inr (5, [.ref q_1, .ref q_7, .ref q_11, .null, .null, .null])), (q_1, .inr (3, [.ref rv_5, .ref rs_6, .int (nI 0)])), (rv_5, .inl (cI, 385, .inl n_v0)), (rs_6, .inl (cI, 2310, .inl (fun _ => 0))), (q_7, .inr (2, [.ref q_1])), (q_11, .inr (1, [.ref q_1, .ref rp_15, .ref rt_16, .ref rl_17])), (rp_15, .inl (cI, 72, .inl (fun _ => 0))), (rt_16, .inl (cI, 72, .inl (fun _ => 0))), (rl_17, .inl (cI, 72, .inl (fun _ => 0))), (q_18, .inr (1, [.null, .null, .null, .null]))] := hD
  refine lv_dup hx hb dX5_init_49 rfl ?_
  refine lv_aload_n hx hb dX5_init_50 rfl (lv_at hl 0 rfl) ?_
  refine va_get (D := (dC, dI)) (ci := 5) (v := .ref q_1) (C := RX5) (T := TX5) (N := 6) hx hb hts (by decide +kernel) hown hK.1 hP 0 rfl rfl 0 (by decide) (hts (.fieldLink RX5 12 "NoteWatermarks" "state" "LNoteWatermarks$State;") (by decide +kernel)) (fun _ h9 => h9) rfl dX5_init_51 ?_
  refine kq_callMv (wr := [(oX, .inr (5, [.ref q_1, .ref q_7, .ref q_11, .null, .null, .null])), (q_1, .inr (3, [.ref rv_5, .ref rs_6, .int (nI 0)])), (rv_5, .inl (cI, 385, .inl n_v0)), (rs_6, .inl (cI, 2310, .inl (fun _ => 0))), (q_7, .inr (2, [.ref q_1])), (q_11, .inr (1, [.ref q_1, .ref rp_15, .ref rt_16, .ref rl_17])), (rp_15, .inl (cI, 72, .inl (fun _ => 0))), (rt_16, .inl (cI, 72, .inl (fun _ => 0))), (rl_17, .inl (cI, 72, .inl (fun _ => 0)))]) (va_runI (As := [.ref q_1]) (rest := [.ref q_18, .ref oX]) ⟨hx, hb, hml, hown, hts⟩ (c_X1_init l dC dI cI H.size q_18 q_1 ) (cwI 1 hts gX5_init_X1_init rfl rfl rfl (hts (.initialized RX1) (by decide +kernel)) (hts (.methodLink RX5 27 yX1_init) (by decide +kernel)) (hts (.instanceMethod yX1_init) (by decide +kernel)) rfl (by decide +kernel) ⟨Nat.le_of_ble_eq_true rfl, Nat.le_of_ble_eq_true rfl⟩) (kq_preS (hP.sub [9] rfl) (hD.sub [9] (by decide) rfl) hK) rfl rfl hl.1 rfl (lv_room (Nat.le_of_ble_eq_true rfl)) dX5_init_54 ⟨Nat.le_of_ble_eq_true rfl, Nat.le_of_ble_eq_true rfl⟩) hP hD hS hA [9] [0, 1, 2, 3, 4, 5, 6, 7, 8] rfl rfl (by decide) (by decide) (fun u_20 H locs hw_21 hP hD hS => ?_)
  obtain ⟨rp_22, rt_23, rl_24⟩ := u_20
  have hP : va_P (dC, dI) vwCl [(oX, .inr (5, [.ref q_1, .ref q_7, .ref q_11, .null, .null, .null])), (q_1, .inr (3, [.ref rv_5, .ref rs_6, .int (nI 0)])), (rv_5, .inl (cI, 385, .inl n_v0)), (rs_6, .inl (cI, 2310, .inl (fun _ => 0))), (q_7, .inr (2, [.ref q_1])), (q_11, .inr (1, [.ref q_1, .ref rp_15, .ref rt_16, .ref rl_17])), (rp_15, .inl (cI, 72, .inl (fun _ => 0))), (rt_16, .inl (cI, 72, .inl (fun _ => 0))), (rl_17, .inl (cI, 72, .inl (fun _ => 0))), (q_18, .inr (1, [.ref q_1, .ref rp_22, .ref rt_23, .ref rl_24])), (rp_22, .inl (cI, 72, .inl (fun _ => 0))), (rt_23, .inl (cI, 72, .inl (fun _ => 0))), (rl_24, .inl (cI, 72, .inl (fun _ => 0)))] H := hP
  have hD : va_D A [(oX, .inr (5, [.ref q_1, .ref q_7, .ref q_11, .null, .null, .null])), (q_1, .inr (3, [.ref rv_5, .ref rs_6, .int (nI 0)])), (rv_5, .inl (cI, 385, .inl n_v0)), (rs_6, .inl (cI, 2310, .inl (fun _ => 0))), (q_7, .inr (2, [.ref q_1])), (q_11, .inr (1, [.ref q_1, .ref rp_15, .ref rt_16, .ref rl_17])), (rp_15, .inl (cI, 72, .inl (fun _ => 0))), (rt_16, .inl (cI, 72, .inl (fun _ => 0))), (rl_17, .inl (cI, 72, .inl (fun _ => 0))), (q_18, .inr (1, [.ref q_1, .ref rp_22, .ref rt_23, .ref rl_24])), (rp_22, .inl (cI, 72, .inl (fun _ => 0))), (rt_23, .inl (cI, 72, .inl (fun _ => 0))), (rl_24, .inl (cI, 72, .inl (fun _ => 0)))] := hD
  try dsimp only at hw_21
  refine va_putF (D := (dC, dI)) (ci := 5) (v := .ref q_18) (ty := .object "NoteWatermarks$Note") (C := RX5) (T := TX5) (N := 6) hx hb hts (by decide +kernel) tyX5 tyX5_ok nmX5 hown hK.1 hP hD hS 0 rfl rfl 3 (by decide) (hts (.fieldLink RX5 32 "NoteWatermarks" "otherView" "LNoteWatermarks$Note;") (by decide +kernel)) (fun _ h9 => h9) rfl hnm rfl (by decide +kernel) rfl rfl (Nat.le_of_ble_eq_true rfl) dX5_init_57 (fun H locs hP hD hS => ?_)
  have hP : va_P (dC, dI) vwCl [(oX, .inr (5, [.ref q_1, .ref q_7, .ref q_11, .ref q_18, .null, .null])), (q_1, .inr (3, [.ref rv_5, .ref rs_6, .int (nI 0)])), (rv_5, .inl (cI, 385, .inl n_v0)), (rs_6, .inl (cI, 2310, .inl (fun _ => 0))), (q_7, .inr (2, [.ref q_1])), (q_11, .inr (1, [.ref q_1, .ref rp_15, .ref rt_16, .ref rl_17])), (rp_15, .inl (cI, 72, .inl (fun _ => 0))), (rt_16, .inl (cI, 72, .inl (fun _ => 0))), (rl_17, .inl (cI, 72, .inl (fun _ => 0))), (q_18, .inr (1, [.ref q_1, .ref rp_22, .ref rt_23, .ref rl_24])), (rp_22, .inl (cI, 72, .inl (fun _ => 0))), (rt_23, .inl (cI, 72, .inl (fun _ => 0))), (rl_24, .inl (cI, 72, .inl (fun _ => 0)))] H := hP
  have hD : va_D A [(oX, .inr (5, [.ref q_1, .ref q_7, .ref q_11, .ref q_18, .null, .null])), (q_1, .inr (3, [.ref rv_5, .ref rs_6, .int (nI 0)])), (rv_5, .inl (cI, 385, .inl n_v0)), (rs_6, .inl (cI, 2310, .inl (fun _ => 0))), (q_7, .inr (2, [.ref q_1])), (q_11, .inr (1, [.ref q_1, .ref rp_15, .ref rt_16, .ref rl_17])), (rp_15, .inl (cI, 72, .inl (fun _ => 0))), (rt_16, .inl (cI, 72, .inl (fun _ => 0))), (rl_17, .inl (cI, 72, .inl (fun _ => 0))), (q_18, .inr (1, [.ref q_1, .ref rp_22, .ref rt_23, .ref rl_24])), (rp_22, .inl (cI, 72, .inl (fun _ => 0))), (rt_23, .inl (cI, 72, .inl (fun _ => 0))), (rl_24, .inl (cI, 72, .inl (fun _ => 0)))] := hD
  refine lv_aload_n hx hb dX5_init_60 rfl (lv_at hl 0 rfl) ?_
  refine va_new (ci := 0) (fs := [.null, .null]) (C := RX0) (T := TX0) (N := 2) hx hb hts (by decide +kernel) tyX0 tyX0_ok hown (hts (.classLink RX5 35 RX0) (by decide +kernel)) (hts (.instantiable RX0 2) (by decide +kernel)) (hts (.initialized RX0) (by decide +kernel)) hK.1 hP hD hS hA rfl (fun j hj => by rcases (show j = 0 ∨ j = 1 by omega) with rfl | rfl <;> rfl) (Nat.le_of_ble_eq_true rfl) (Nat.le_of_ble_eq_true rfl) dX5_init_61 (fun q_25 H hP hD hS => ?_)
  have hP : va_P (dC, dI) vwCl [(oX, .inr (5, [.ref q_1, .ref q_7, .ref q_11, .ref q_18, .null, .null])), (q_1, .inr (3, [.ref rv_5, .ref rs_6, .int (nI 0)])), (rv_5, .inl (cI, 385, .inl n_v0)), (rs_6, .inl (cI, 2310, .inl (fun _ => 0))), (q_7, .inr (2, [.ref q_1])), (q_11, .inr (1, [.ref q_1, .ref rp_15, .ref rt_16, .ref rl_17])), (rp_15, .inl (cI, 72, .inl (fun _ => 0))), (rt_16, .inl (cI, 72, .inl (fun _ => 0))), (rl_17, .inl (cI, 72, .inl (fun _ => 0))), (q_18, .inr (1, [.ref q_1, .ref rp_22, .ref rt_23, .ref rl_24])), (rp_22, .inl (cI, 72, .inl (fun _ => 0))), (rt_23, .inl (cI, 72, .inl (fun _ => 0))), (rl_24, .inl (cI, 72, .inl (fun _ => 0))), (q_25, .inr (0, [.null, .null]))] H := hP
  have hD : va_D A [(oX, .inr (5, [.ref q_1, .ref q_7, .ref q_11, .ref q_18, .null, .null])), (q_1, .inr (3, [.ref rv_5, .ref rs_6, .int (nI 0)])), (rv_5, .inl (cI, 385, .inl n_v0)), (rs_6, .inl (cI, 2310, .inl (fun _ => 0))), (q_7, .inr (2, [.ref q_1])), (q_11, .inr (1, [.ref q_1, .ref rp_15, .ref rt_16, .ref rl_17])), (rp_15, .inl (cI, 72, .inl (fun _ => 0))), (rt_16, .inl (cI, 72, .inl (fun _ => 0))), (rl_17, .inl (cI, 72, .inl (fun _ => 0))), (q_18, .inr (1, [.ref q_1, .ref rp_22, .ref rt_23, .ref rl_24])), (rp_22, .inl (cI, 72, .inl (fun _ => 0))), (rt_23, .inl (cI, 72, .inl (fun _ => 0))), (rl_24, .inl (cI, 72, .inl (fun _ => 0))), (q_25, .inr (0, [.null, .null]))] := hD
  refine lv_dup hx hb dX5_init_64 rfl ?_
  refine lv_aload_n hx hb dX5_init_65 rfl (lv_at hl 0 rfl) ?_
  refine va_get (D := (dC, dI)) (ci := 5) (v := .ref q_1) (C := RX5) (T := TX5) (N := 6) hx hb hts (by decide +kernel) hown hK.1 hP 0 rfl rfl 0 (by decide) (hts (.fieldLink RX5 12 "NoteWatermarks" "state" "LNoteWatermarks$State;") (by decide +kernel)) (fun _ h9 => h9) rfl dX5_init_66 ?_
  refine lv_aload_n hx hb dX5_init_69 rfl (lv_at hl 0 rfl) ?_
  refine va_get (D := (dC, dI)) (ci := 5) (v := .ref q_11) (C := RX5) (T := TX5) (N := 6) hx hb hts (by decide +kernel) hown hK.1 hP 0 rfl rfl 2 (by decide) (hts (.fieldLink RX5 28 "NoteWatermarks" "view" "LNoteWatermarks$Note;") (by decide +kernel)) (fun _ h9 => h9) rfl dX5_init_70 ?_
  refine kq_callMv (wr := [(oX, .inr (5, [.ref q_1, .ref q_7, .ref q_11, .ref q_18, .null, .null])), (q_1, .inr (3, [.ref rv_5, .ref rs_6, .int (nI 0)])), (rv_5, .inl (cI, 385, .inl n_v0)), (rs_6, .inl (cI, 2310, .inl (fun _ => 0))), (q_7, .inr (2, [.ref q_1])), (q_11, .inr (1, [.ref q_1, .ref rp_15, .ref rt_16, .ref rl_17])), (rp_15, .inl (cI, 72, .inl (fun _ => 0))), (rt_16, .inl (cI, 72, .inl (fun _ => 0))), (rl_17, .inl (cI, 72, .inl (fun _ => 0))), (q_18, .inr (1, [.ref q_1, .ref rp_22, .ref rt_23, .ref rl_24])), (rp_22, .inl (cI, 72, .inl (fun _ => 0))), (rt_23, .inl (cI, 72, .inl (fun _ => 0))), (rl_24, .inl (cI, 72, .inl (fun _ => 0)))]) (va_runI (As := [.ref q_1, .ref q_11]) (rest := [.ref q_25, .ref oX]) ⟨hx, hb, hml, hown, hts⟩ (c_X0_init l dC dI cI H.size q_25 q_1 q_11 ) (cwI 2 hts gX5_init_X0_init rfl rfl rfl (hts (.initialized RX0) (by decide +kernel)) (hts (.methodLink RX5 37 yX0_init) (by decide +kernel)) (hts (.instanceMethod yX0_init) (by decide +kernel)) rfl (by decide +kernel) ⟨Nat.le_of_ble_eq_true rfl, Nat.le_of_ble_eq_true rfl⟩) (kq_preS (hP.sub [13] rfl) (hD.sub [13] (by decide) rfl) hK) rfl rfl hl.1 rfl (lv_room (Nat.le_of_ble_eq_true rfl)) dX5_init_73 ⟨Nat.le_of_ble_eq_true rfl, Nat.le_of_ble_eq_true rfl⟩) hP hD hS hA [13] [0, 1, 2, 3, 4, 5, 6, 7, 8, 9, 10, 11, 12] rfl rfl (by decide) (by decide) (fun u_27 H locs hw_28 hP hD hS => ?_)
  have hP : va_P (dC, dI) vwCl [(oX, .inr (5, [.ref q_1, .ref q_7, .ref q_11, .ref q_18, .null, .null])), (q_1, .inr (3, [.ref rv_5, .ref rs_6, .int (nI 0)])), (rv_5, .inl (cI, 385, .inl n_v0)), (rs_6, .inl (cI, 2310, .inl (fun _ => 0))), (q_7, .inr (2, [.ref q_1])), (q_11, .inr (1, [.ref q_1, .ref rp_15, .ref rt_16, .ref rl_17])), (rp_15, .inl (cI, 72, .inl (fun _ => 0))), (rt_16, .inl (cI, 72, .inl (fun _ => 0))), (rl_17, .inl (cI, 72, .inl (fun _ => 0))), (q_18, .inr (1, [.ref q_1, .ref rp_22, .ref rt_23, .ref rl_24])), (rp_22, .inl (cI, 72, .inl (fun _ => 0))), (rt_23, .inl (cI, 72, .inl (fun _ => 0))), (rl_24, .inl (cI, 72, .inl (fun _ => 0))), (q_25, .inr (0, [.ref q_1, .ref q_11]))] H := hP
  have hD : va_D A [(oX, .inr (5, [.ref q_1, .ref q_7, .ref q_11, .ref q_18, .null, .null])), (q_1, .inr (3, [.ref rv_5, .ref rs_6, .int (nI 0)])), (rv_5, .inl (cI, 385, .inl n_v0)), (rs_6, .inl (cI, 2310, .inl (fun _ => 0))), (q_7, .inr (2, [.ref q_1])), (q_11, .inr (1, [.ref q_1, .ref rp_15, .ref rt_16, .ref rl_17])), (rp_15, .inl (cI, 72, .inl (fun _ => 0))), (rt_16, .inl (cI, 72, .inl (fun _ => 0))), (rl_17, .inl (cI, 72, .inl (fun _ => 0))), (q_18, .inr (1, [.ref q_1, .ref rp_22, .ref rt_23, .ref rl_24])), (rp_22, .inl (cI, 72, .inl (fun _ => 0))), (rt_23, .inl (cI, 72, .inl (fun _ => 0))), (rl_24, .inl (cI, 72, .inl (fun _ => 0))), (q_25, .inr (0, [.ref q_1, .ref q_11]))] := hD
  refine va_putF (D := (dC, dI)) (ci := 5) (v := .ref q_25) (ty := .object "NoteWatermarks$Figures") (C := RX5) (T := TX5) (N := 6) hx hb hts (by decide +kernel) tyX5 tyX5_ok nmX5 hown hK.1 hP hD hS 0 rfl rfl 4 (by decide) (hts (.fieldLink RX5 40 "NoteWatermarks" "figures" "LNoteWatermarks$Figures;") (by decide +kernel)) (fun _ h9 => h9) rfl hnm rfl (by decide +kernel) rfl rfl (Nat.le_of_ble_eq_true rfl) dX5_init_76 (fun H locs hP hD hS => ?_)
  have hP : va_P (dC, dI) vwCl [(oX, .inr (5, [.ref q_1, .ref q_7, .ref q_11, .ref q_18, .ref q_25, .null])), (q_1, .inr (3, [.ref rv_5, .ref rs_6, .int (nI 0)])), (rv_5, .inl (cI, 385, .inl n_v0)), (rs_6, .inl (cI, 2310, .inl (fun _ => 0))), (q_7, .inr (2, [.ref q_1])), (q_11, .inr (1, [.ref q_1, .ref rp_15, .ref rt_16, .ref rl_17])), (rp_15, .inl (cI, 72, .inl (fun _ => 0))), (rt_16, .inl (cI, 72, .inl (fun _ => 0))), (rl_17, .inl (cI, 72, .inl (fun _ => 0))), (q_18, .inr (1, [.ref q_1, .ref rp_22, .ref rt_23, .ref rl_24])), (rp_22, .inl (cI, 72, .inl (fun _ => 0))), (rt_23, .inl (cI, 72, .inl (fun _ => 0))), (rl_24, .inl (cI, 72, .inl (fun _ => 0))), (q_25, .inr (0, [.ref q_1, .ref q_11]))] H := hP
  have hD : va_D A [(oX, .inr (5, [.ref q_1, .ref q_7, .ref q_11, .ref q_18, .ref q_25, .null])), (q_1, .inr (3, [.ref rv_5, .ref rs_6, .int (nI 0)])), (rv_5, .inl (cI, 385, .inl n_v0)), (rs_6, .inl (cI, 2310, .inl (fun _ => 0))), (q_7, .inr (2, [.ref q_1])), (q_11, .inr (1, [.ref q_1, .ref rp_15, .ref rt_16, .ref rl_17])), (rp_15, .inl (cI, 72, .inl (fun _ => 0))), (rt_16, .inl (cI, 72, .inl (fun _ => 0))), (rl_17, .inl (cI, 72, .inl (fun _ => 0))), (q_18, .inr (1, [.ref q_1, .ref rp_22, .ref rt_23, .ref rl_24])), (rp_22, .inl (cI, 72, .inl (fun _ => 0))), (rt_23, .inl (cI, 72, .inl (fun _ => 0))), (rl_24, .inl (cI, 72, .inl (fun _ => 0))), (q_25, .inr (0, [.ref q_1, .ref q_11]))] := hD
  refine lv_aload_n hx hb dX5_init_79 rfl (lv_at hl 0 rfl) ?_
  refine va_new (ci := 4) (fs := [.null, .int 0]) (C := RX4) (T := TX4) (N := 2) hx hb hts (by decide +kernel) tyX4 tyX4_ok hown (hts (.classLink RX5 44 RX4) (by decide +kernel)) (hts (.instantiable RX4 2) (by decide +kernel)) (hts (.initialized RX4) (by decide +kernel)) hK.1 hP hD hS hA rfl (fun j hj => by rcases (show j = 0 ∨ j = 1 by omega) with rfl | rfl <;> rfl) (Nat.le_of_ble_eq_true rfl) (Nat.le_of_ble_eq_true rfl) dX5_init_80 (fun q_29 H hP hD hS => ?_)
  have hP : va_P (dC, dI) vwCl [(oX, .inr (5, [.ref q_1, .ref q_7, .ref q_11, .ref q_18, .ref q_25, .null])), (q_1, .inr (3, [.ref rv_5, .ref rs_6, .int (nI 0)])), (rv_5, .inl (cI, 385, .inl n_v0)), (rs_6, .inl (cI, 2310, .inl (fun _ => 0))), (q_7, .inr (2, [.ref q_1])), (q_11, .inr (1, [.ref q_1, .ref rp_15, .ref rt_16, .ref rl_17])), (rp_15, .inl (cI, 72, .inl (fun _ => 0))), (rt_16, .inl (cI, 72, .inl (fun _ => 0))), (rl_17, .inl (cI, 72, .inl (fun _ => 0))), (q_18, .inr (1, [.ref q_1, .ref rp_22, .ref rt_23, .ref rl_24])), (rp_22, .inl (cI, 72, .inl (fun _ => 0))), (rt_23, .inl (cI, 72, .inl (fun _ => 0))), (rl_24, .inl (cI, 72, .inl (fun _ => 0))), (q_25, .inr (0, [.ref q_1, .ref q_11])), (q_29, .inr (4, [.null, .int 0]))] H := hP
  have hD : va_D A [(oX, .inr (5, [.ref q_1, .ref q_7, .ref q_11, .ref q_18, .ref q_25, .null])), (q_1, .inr (3, [.ref rv_5, .ref rs_6, .int (nI 0)])), (rv_5, .inl (cI, 385, .inl n_v0)), (rs_6, .inl (cI, 2310, .inl (fun _ => 0))), (q_7, .inr (2, [.ref q_1])), (q_11, .inr (1, [.ref q_1, .ref rp_15, .ref rt_16, .ref rl_17])), (rp_15, .inl (cI, 72, .inl (fun _ => 0))), (rt_16, .inl (cI, 72, .inl (fun _ => 0))), (rl_17, .inl (cI, 72, .inl (fun _ => 0))), (q_18, .inr (1, [.ref q_1, .ref rp_22, .ref rt_23, .ref rl_24])), (rp_22, .inl (cI, 72, .inl (fun _ => 0))), (rt_23, .inl (cI, 72, .inl (fun _ => 0))), (rl_24, .inl (cI, 72, .inl (fun _ => 0))), (q_25, .inr (0, [.ref q_1, .ref q_11])), (q_29, .inr (4, [.null, .int 0]))] := hD
  refine lv_dup hx hb dX5_init_83 rfl ?_
  refine kq_callMv (wr := [(oX, .inr (5, [.ref q_1, .ref q_7, .ref q_11, .ref q_18, .ref q_25, .null])), (q_1, .inr (3, [.ref rv_5, .ref rs_6, .int (nI 0)])), (rv_5, .inl (cI, 385, .inl n_v0)), (rs_6, .inl (cI, 2310, .inl (fun _ => 0))), (q_7, .inr (2, [.ref q_1])), (q_11, .inr (1, [.ref q_1, .ref rp_15, .ref rt_16, .ref rl_17])), (rp_15, .inl (cI, 72, .inl (fun _ => 0))), (rt_16, .inl (cI, 72, .inl (fun _ => 0))), (rl_17, .inl (cI, 72, .inl (fun _ => 0))), (q_18, .inr (1, [.ref q_1, .ref rp_22, .ref rt_23, .ref rl_24])), (rp_22, .inl (cI, 72, .inl (fun _ => 0))), (rt_23, .inl (cI, 72, .inl (fun _ => 0))), (rl_24, .inl (cI, 72, .inl (fun _ => 0))), (q_25, .inr (0, [.ref q_1, .ref q_11]))]) (va_runIN (As := []) (rest := [.ref q_29, .ref oX]) ⟨hx, hb, hml, hown, hts⟩ (c_X4_init l dC dI cI H.size q_29 ) ⟨va_cnB (own := RX5) (host := RX5) (index := 46) (y := yX4_init) 0 hts gX5_init_X4_init_n46 rfl rfl rfl (hK.2 _ (by simp [kq_nest])) (hts (.initialized RX4) (by decide +kernel)) (by decide +kernel) ⟨Nat.le_of_ble_eq_true rfl, Nat.le_of_ble_eq_true rfl⟩, rfl, (hts (.instanceMethod yX4_init) (by decide +kernel))⟩ (kq_preS (hP.sub [14] rfl) (hD.sub [14] (by decide) rfl) hK) rfl rfl hl.1 rfl (lv_room (Nat.le_of_ble_eq_true rfl)) dX5_init_84 ⟨Nat.le_of_ble_eq_true rfl, Nat.le_of_ble_eq_true rfl⟩) hP hD hS hA [14] [0, 1, 2, 3, 4, 5, 6, 7, 8, 9, 10, 11, 12, 13] rfl rfl (by decide) (by decide) (fun u_31 H locs hw_32 hP hD hS => ?_)
  obtain ⟨rc_33, rfl⟩ : ∃ z, z = u_31 := ⟨_, rfl⟩
  have hP : va_P (dC, dI) vwCl [(oX, .inr (5, [.ref q_1, .ref q_7, .ref q_11, .ref q_18, .ref q_25, .null])), (q_1, .inr (3, [.ref rv_5, .ref rs_6, .int (nI 0)])), (rv_5, .inl (cI, 385, .inl n_v0)), (rs_6, .inl (cI, 2310, .inl (fun _ => 0))), (q_7, .inr (2, [.ref q_1])), (q_11, .inr (1, [.ref q_1, .ref rp_15, .ref rt_16, .ref rl_17])), (rp_15, .inl (cI, 72, .inl (fun _ => 0))), (rt_16, .inl (cI, 72, .inl (fun _ => 0))), (rl_17, .inl (cI, 72, .inl (fun _ => 0))), (q_18, .inr (1, [.ref q_1, .ref rp_22, .ref rt_23, .ref rl_24])), (rp_22, .inl (cI, 72, .inl (fun _ => 0))), (rt_23, .inl (cI, 72, .inl (fun _ => 0))), (rl_24, .inl (cI, 72, .inl (fun _ => 0))), (q_25, .inr (0, [.ref q_1, .ref q_11])), (q_29, .inr (4, [.ref rc_33, .int (nI 0)])), (rc_33, .inl (cI, 60, .inl (fun _ => 0)))] H := hP
  have hD : va_D A [(oX, .inr (5, [.ref q_1, .ref q_7, .ref q_11, .ref q_18, .ref q_25, .null])), (q_1, .inr (3, [.ref rv_5, .ref rs_6, .int (nI 0)])), (rv_5, .inl (cI, 385, .inl n_v0)), (rs_6, .inl (cI, 2310, .inl (fun _ => 0))), (q_7, .inr (2, [.ref q_1])), (q_11, .inr (1, [.ref q_1, .ref rp_15, .ref rt_16, .ref rl_17])), (rp_15, .inl (cI, 72, .inl (fun _ => 0))), (rt_16, .inl (cI, 72, .inl (fun _ => 0))), (rl_17, .inl (cI, 72, .inl (fun _ => 0))), (q_18, .inr (1, [.ref q_1, .ref rp_22, .ref rt_23, .ref rl_24])), (rp_22, .inl (cI, 72, .inl (fun _ => 0))), (rt_23, .inl (cI, 72, .inl (fun _ => 0))), (rl_24, .inl (cI, 72, .inl (fun _ => 0))), (q_25, .inr (0, [.ref q_1, .ref q_11])), (q_29, .inr (4, [.ref rc_33, .int (nI 0)])), (rc_33, .inl (cI, 60, .inl (fun _ => 0)))] := hD
  refine va_putF (D := (dC, dI)) (ci := 5) (v := .ref q_29) (ty := .object "NoteWatermarks$WireText") (C := RX5) (T := TX5) (N := 6) hx hb hts (by decide +kernel) tyX5 tyX5_ok nmX5 hown hK.1 hP hD hS 0 rfl rfl 5 (by decide) (hts (.fieldLink RX5 47 "NoteWatermarks" "text" "LNoteWatermarks$WireText;") (by decide +kernel)) (fun _ h9 => h9) rfl hnm rfl (by decide +kernel) rfl rfl (Nat.le_of_ble_eq_true rfl) dX5_init_87 (fun H locs hP hD hS => ?_)
  have hP : va_P (dC, dI) vwCl [(oX, .inr (5, [.ref q_1, .ref q_7, .ref q_11, .ref q_18, .ref q_25, .ref q_29])), (q_1, .inr (3, [.ref rv_5, .ref rs_6, .int (nI 0)])), (rv_5, .inl (cI, 385, .inl n_v0)), (rs_6, .inl (cI, 2310, .inl (fun _ => 0))), (q_7, .inr (2, [.ref q_1])), (q_11, .inr (1, [.ref q_1, .ref rp_15, .ref rt_16, .ref rl_17])), (rp_15, .inl (cI, 72, .inl (fun _ => 0))), (rt_16, .inl (cI, 72, .inl (fun _ => 0))), (rl_17, .inl (cI, 72, .inl (fun _ => 0))), (q_18, .inr (1, [.ref q_1, .ref rp_22, .ref rt_23, .ref rl_24])), (rp_22, .inl (cI, 72, .inl (fun _ => 0))), (rt_23, .inl (cI, 72, .inl (fun _ => 0))), (rl_24, .inl (cI, 72, .inl (fun _ => 0))), (q_25, .inr (0, [.ref q_1, .ref q_11])), (q_29, .inr (4, [.ref rc_33, .int (nI 0)])), (rc_33, .inl (cI, 60, .inl (fun _ => 0)))] H := hP
  have hD : va_D A [(oX, .inr (5, [.ref q_1, .ref q_7, .ref q_11, .ref q_18, .ref q_25, .ref q_29])), (q_1, .inr (3, [.ref rv_5, .ref rs_6, .int (nI 0)])), (rv_5, .inl (cI, 385, .inl n_v0)), (rs_6, .inl (cI, 2310, .inl (fun _ => 0))), (q_7, .inr (2, [.ref q_1])), (q_11, .inr (1, [.ref q_1, .ref rp_15, .ref rt_16, .ref rl_17])), (rp_15, .inl (cI, 72, .inl (fun _ => 0))), (rt_16, .inl (cI, 72, .inl (fun _ => 0))), (rl_17, .inl (cI, 72, .inl (fun _ => 0))), (q_18, .inr (1, [.ref q_1, .ref rp_22, .ref rt_23, .ref rl_24])), (rp_22, .inl (cI, 72, .inl (fun _ => 0))), (rt_23, .inl (cI, 72, .inl (fun _ => 0))), (rl_24, .inl (cI, 72, .inl (fun _ => 0))), (q_25, .inr (0, [.ref q_1, .ref q_11])), (q_29, .inr (4, [.ref rc_33, .int (nI 0)])), (rc_33, .inl (cI, 60, .inl (fun _ => 0)))] := hD
  refine W.widen (k := 21) (n := 3203) (by omega) (by omega) ?_
  exact kq_retMv (q_1, q_7, q_11, q_18, q_25, q_29, rv_5, rs_6, rp_15, rt_16, rl_17, rp_22, rt_23, rl_24, rc_33) hx hb hr hlocks hP hD hS dX5_init_90 (by trivial)
